noncomputable def wp_c5_goThroughDraw_227 (L : List Nat) (K : Nat → cw_K) (N : ((Nat → Nat → Int) → (Nat → Nat → Int) → Nat → Int → Int → Int → Int → Int → (Int → (Nat → Nat → Int) → (Nat → Nat → Int) → Prop) → Prop)) (z : Nat → Nat → Int) (r : Nat → Nat → Nat) (A : Nat → Nat → Int) (y0 : Nat) (x8 : Int) (x9 : Int) (x10 : Int) (x12 : Int) (Q : Int → (Nat → Nat → Int) → (Nat → Nat → Int) → Prop) : Prop := cw_O L K 5 y0 ∧ cw_O L K 10 (r y0 2) ∧ wp_c10_advance L K z r A (r y0 2) (fun z_3 => wp_c5_endDraw L K z_3 r A y0 x8 x9 x10 x12 (fun rv_5 z_6 => (rv_5 = 0 ∨ rv_5 = 1) ∧ Q rv_5 z_6 A))
noncomputable def wp_c5_goThroughDraw_154 (L : List Nat) (K : Nat → cw_K) (N : ((Nat → Nat → Int) → (Nat → Nat → Int) → Nat → Int → Int → Int → Int → Int → (Int → (Nat → Nat → Int) → (Nat → Nat → Int) → Prop) → Prop)) (z : Nat → Nat → Int) (r : Nat → Nat → Nat) (A : Nat → Nat → Int) (y0 : Nat) (y1 : Int) (y2 : Int) (y4 : Int) (y6 : Int) (y7 : Int) (x8 : Int) (x9 : Int) (x10 : Int) (x12 : Int) (x14 : Int) (P59 : (Nat → Nat → Int) → (Nat → Nat → Int) → Int → Int → Int → Int → Prop) (Q : Int → (Nat → Nat → Int) → (Nat → Nat → Int) → Prop) : Prop := cw_O L K 5 y0 ∧ ∀ x15_8 : Int, x15_8 = y2 * (z y0 7) → ∀ x17_9 : Int, x17_9 = y4 * (z y0 8) → wp_c11_gcd L K z r A x15_8 x17_9 (fun rv_10 => wp_c11_quotient L K z r A x15_8 rv_10 (fun rv_11 => wp_c11_quotient L K z r A x17_9 rv_10 (fun rv_12 => N z A y0 (y1 + 1) rv_11 rv_12 y6 y7 (fun rv_13 z_14 A_15 => hz_rI rv_13 ∧ ((¬ rv_13 = 0 → ∀ x9_17 : Int, x9_17 = x9 + 1 → ∀ x14_18 : Int, x14_18 = x14 + 1 → P59 z_14 A_15 x9_17 x10 x12 x14_18) ∧ (rv_13 = 0 → Q 0 z_14 A_15))))))
noncomputable def wp_c5_goThroughDraw_59 (L : List Nat) (K : Nat → cw_K) (N : ((Nat → Nat → Int) → (Nat → Nat → Int) → Nat → Int → Int → Int → Int → Int → (Int → (Nat → Nat → Int) → (Nat → Nat → Int) → Prop) → Prop)) (z : Nat → Nat → Int) (r : Nat → Nat → Nat) (A : Nat → Nat → Int) (y0 : Nat) (y1 : Int) (y2 : Int) (y4 : Int) (y6 : Int) (y7 : Int) (x8 : Int) (x9 : Int) (x10 : Int) (x12 : Int) (x14 : Int) (Q : Int → (Nat → Nat → Int) → (Nat → Nat → Int) → Prop) : Prop := ∀ P59 : (Nat → Nat → Int) → (Nat → Nat → Int) → Int → Int → Int → Int → Prop, (∀ (z : Nat → Nat → Int) (A : Nat → Nat → Int) (x9 : Int) (x10 : Int) (x12 : Int) (x14 : Int), hz_rI x14 ∧ ((400 ≤ x14 → wp_c5_goThroughDraw_227 L K N z r A y0 x8 x9 x10 x12  Q) ∧ (¬ (400 ≤ x14) → cw_O L K 5 y0 ∧ cw_O L K 10 (r y0 2) ∧ hz_rI (z (r y0 2) 2) ∧ ((z (r y0 2) 2 = 41 → wp_c5_goThroughDraw_227 L K N z r A y0 x8 x9 x10 x12  Q) ∧ (¬ (z (r y0 2) 2 = 41) → wp_c10_advance L K z r A (r y0 2) (fun z_24 => wp_c5_goThroughFraction L K z_24 r A y0 1 (fun rv_25 z_26 => hz_rI rv_25 ∧ ((¬ rv_25 = 0 → wp_c10_advance L K z_26 r A (r y0 2) (fun z_29 => hz_rL x10 ∧ ((1000000000 ≤ x10 → wp_c5_goThroughDraw_154 L K N z_29 r A y0 y1 y2 y4 y6 y7 x8 x9 x10 x12 x14 P59 Q) ∧ (¬ (1000000000 ≤ x10) → wp_c11_lcm L K z_29 r A x10 (z_29 y0 8) (fun rv_31 => wp_c11_quotient L K z_29 r A rv_31 x10 (fun rv_32 => wp_c11_quotient L K z_29 r A rv_31 (z_29 y0 8) (fun rv_33 => ∀ x12_34 : Int, x12_34 = (x12 * rv_32) + ((z_29 y0 7) * rv_33) → wp_c5_goThroughDraw_154 L K N z_29 r A y0 y1 y2 y4 y6 y7 x8 x9 rv_31 x12_34 x14 P59 Q))))))) ∧ (rv_25 = 0 → Q 0 z_26 A)))))))) → P59 z A x9 x10 x12 x14) → P59 z A x9 x10 x12 x14
noncomputable def wp_c5_goThroughDraw (L : List Nat) (K : Nat → cw_K) (N : ((Nat → Nat → Int) → (Nat → Nat → Int) → Nat → Int → Int → Int → Int → Int → (Int → (Nat → Nat → Int) → (Nat → Nat → Int) → Prop) → Prop)) (z : Nat → Nat → Int) (r : Nat → Nat → Nat) (A : Nat → Nat → Int) (y0 : Nat) (y1 : Int) (y2 : Int) (y4 : Int) (y6 : Int) (y7 : Int) (Q : Int → (Nat → Nat → Int) → (Nat → Nat → Int) → Prop) : Prop := cw_O L K 5 y0 ∧ cw_O L K 10 (r y0 2) ∧ ∀ x8_37 : Int, x8_37 = z (r y0 2) 3 → hz_rL y4 ∧ ((y4 < 1000000000 → cw_O L K 2 (r y0 3) ∧ cw_A L K 0 (r (r y0 3) 0) ∧ ((0 : Int) ≤ 2 ∧ 2 < (cw_n K (r (r y0 3) 0) : Int)) ∧ ((0 : Int) ≤ 2 ∧ 2 < (cw_n K (r (r y0 3) 0) : Int)) ∧ ∀ A_41 : Nat → Nat → Int, A_41 = hz_s A (r (r y0 3) 0) 2 ((A (r (r y0 3) 0) ((2 : Int).toNat)) + 1) → wp_c10_advance L K z r A_41 (r y0 2) (fun z_43 => wp_c5_goThroughDraw_59 L K N z_43 r A_41 y0 y1 y2 y4 y6 y7 x8_37 0 1 0 0  Q)) ∧ (¬ (y4 < 1000000000) → wp_c5_refuse L K z r A y0 6 x8_37 (fun rv_44 z_45 => (rv_44 = 0 ∨ rv_44 = 1) ∧ Q rv_44 z_45 A)))
set_option maxHeartbeats 4000000 in
set_option maxRecDepth 100000 in
theorem k_c5_goThroughDraw (l : Launch) (D : va_G) (sz : Nat) (C : Nat → ClassId) (L : List Nat) (K : Nat → cw_K) (z : Nat → Nat → Int) (r : Nat → Nat → Nat) (A : Nat → Nat → Int) (y0 : Nat) (y1 : Int) (y2 : Int) (y4 : Int) (y6 : Int) (y7 : Int) (Q : Int → (Nat → Nat → Int) → (Nat → Nat → Int) → Prop) {F Lc : Nat} (N : ((Nat → Nat → Int) → (Nat → Nat → Int) → Nat → Int → Int → Int → Int → Int → (Int → (Nat → Nat → Int) → (Nat → Nat → Int) → Prop) → Prop)) (hN : ∀ (z A : Nat → Nat → Int) (y0 : Nat) (y1 y2 y4 y6 y7 : Int) (Q : Int → (Nat → Nat → Int) → (Nat → Nat → Int) → Prop), N z A y0 y1 y2 y4 y6 y7 Q → ∀ sz : Nat, Met l yX5_goThroughNode wsX5_goThroughNode ({ frames := F, cells := 0, slots := 0, locals := Lc } : Room) (va_Pc [.ref y0, .int (hz_i y1), .long (hz_l y2), .long (hz_l y4), .int (hz_i y6), .int (hz_i y7)] (hm_P D (cw_w C L K z r A) (cw_t C) sz)) (va_Qi (S := Int × (Nat → Nat → Int) × (Nat → Nat → Nat) × (Nat → Nat → Int)) (fun r u => r = hz_i u.1 ∧ Q u.1 u.2.1 u.2.2.2) (fun u t => hm_B D (va_A (cw_w C L K z r A) sz) (cw_w C L K u.2.1 r u.2.2.2) (cw_t C) t) (va_A (cw_w C L K z r A) sz)) 0 0 (va_A (cw_w C L K z r A) sz)) (hw : wp_c5_goThroughDraw L K N z r A y0 y1 y2 y4 y6 y7 Q) : Met l yX5_goThroughDraw wsX5_goThroughDraw ({ frames := F + 3, cells := 0, slots := 0, locals := Lc + 79 } : Room) (va_Pc [.ref y0, .int (hz_i y1), .long (hz_l y2), .long (hz_l y4), .int (hz_i y6), .int (hz_i y7)] (hm_P D (cw_w C L K z r A) (cw_t C) sz)) (va_Qi (S := Int × (Nat → Nat → Int) × (Nat → Nat → Nat) × (Nat → Nat → Int)) (fun r u => r = hz_i u.1 ∧ Q u.1 u.2.1 u.2.2.2) (fun u t => hm_B D (va_A (cw_w C L K z r A) sz) (cw_w C L K u.2.1 r u.2.2.2) (cw_t C) t) (va_A (cw_w C L K z r A) sz)) 0 0 (va_A (cw_w C L K z r A) sz) := by
  refine Met.ofW (cc := cX5_goThroughDraw) (maxL := 21) (ret := (some .boolean)) (by decide) rfl ?_
  intro p e s m args below meth c s₁ B hml hv
  obtain ⟨rfl, hsz, hP, hK, hD0, hE⟩ := hv
  have hx := B.exec
  have hb := B.bytes
  have hr := B.returns
  have hts := atoms_spec (ws := wsX5_goThroughDraw) B.pre
  have hown : s.vm.findClass RX5 = some m.cls := findClass_of_methodNamed B.named
  have hlocks := B.notSynchronized
  have hin2 : ∀ w ∈ u_ws RX2 TX2 4, w ∈ wsX5_goThroughDraw := fun w h => List.mem_cons_of_mem _ (List.mem_append_left _ (List.mem_append_right _ (h)))
  have hin5 : ∀ w ∈ u_ws RX5 TX5 13, w ∈ wsX5_goThroughDraw := fun w h => List.mem_cons_of_mem _ (List.mem_append_left _ (List.mem_append_left _ (List.mem_append_left _ (List.mem_append_right _ (h)))))
  have hin10 : ∀ w ∈ u_ws RX10 TX10 6, w ∈ wsX5_goThroughDraw := fun w h => List.mem_cons_of_mem _ (List.mem_append_left _ (List.mem_append_left _ (List.mem_append_right _ (h))))
  subst hsz
  have hD := hD0.self (sz := s.heap.size)
  generalize hAe : va_A (cw_w C L K z r A) s.heap.size = Ad at hD ⊢
  have hA : ∀ q : Nat, s.heap.size ≤ q → Ad q := fun q h => by rw [← hAe]; exact Or.inr h
  have hS : va_S Ad s.heap s.heap [] := va_S.rf
  have hl := lv_entry ([.ref y0, .int (hz_i y1), .long (hz_l y2), .long (hz_l y4), .int (hz_i y6), .int (hz_i y7)]) (n := 21) (Nat.le_of_ble_eq_true rfl)
  rw [lg_entry_eq]
  generalize (lg_sl ([.ref y0, .int (hz_i y1), .long (hz_l y2), .long (hz_l y4), .int (hz_i y6), .int (hz_i y7)]) ++ List.replicate (21 - (lg_sl ([.ref y0, .int (hz_i y1), .long (hz_l y2), .long (hz_l y4), .int (hz_i y6), .int (hz_i y7)])).length) Slot.unset).toArray = ls at hl ⊢
  have hl : lv_has ls 21 [(0, .ref y0), (1, .int (hz_i y1)), (2, .long (hz_l y2)), (4, .long (hz_l y4)), (6, .int (hz_i y6)), (7, .int (hz_i y7))] := hl
  refine mw_Q (fun QQ hQQ => ?_)
  have hP0 := hP; have hD0 := hD; have hS0 := hS; have hl0 := hl; have hw0 := hw
  clear hP hD hS hl hw
  have L227 : ∀ (z : Nat → Nat → Int) (A : Nat → Nat → Int) (x8 : Int) (x9 : Int) (x10 : Int) (x12 : Int), wp_c5_goThroughDraw_227 L K N z r A y0 x8 x9 x10 x12  Q → ∀ (H : Heap) (locs : List Loc) (ls : Array Slot), va_P D vwCl (cw_w C L K z r A) H → va_D Ad (cw_w C L K z r A) → va_S Ad s.heap H locs → lv_has ls 21 [(0, .ref y0), (8, .int (hz_i x8)), (9, .int (hz_i x9)), (10, .long (hz_l x10)), (12, .long (hz_l x12))] → W p l e (headSpec wsX5_goThroughDraw ({ frames := F + 3, cells := 0, slots := 0, locals := Lc + 79 } : Room)).room s m (List.toArray [.ref y0, .int (hz_i y1), .long (hz_l y2), .long (hz_l y4), .int (hz_i y6), .int (hz_i y7)]) below meth c H locs 0 0 QQ (F0 m 227 ls []) := by
    intro z A x8 x9 x10 x12 hw H locs ls hP hD hS hl
    refine lv_aload_n hx hb dX5_goThroughDraw_227 rfl (lv_at hl 0 rfl) ?_
    obtain ⟨hO_1, hw⟩ := hw
    refine cw_get (ci := 5) (v := .ref (r y0 2)) hx hb hts hin5 hown hK hP hO_1.1 hO_1.2 rfl 2 (by decide) (hts (.fieldLink RX5 21 "HiddenMoves$Reader" "words" "LHiddenMoves$Words;") (List.mem_cons_of_mem _ (List.mem_append_left _ (List.mem_append_left _ (List.mem_append_left _ (List.mem_append_left _ (List.mem_append_left _ (List.mem_of_getElem? (i := 0) rfl)))))))) (fun _ h9 => h9) rfl dX5_goThroughDraw_228 ?_
    obtain ⟨hO_4, hw⟩ := hw
    have hFc := cw_free hD hS hA
    obtain ⟨q9, hq9⟩ := cw_at (C := C) (z := z) (r := r) (A := A) hO_4.1 hO_4.2
    refine va_callv (va_runV (As := []) (rest := []) ⟨hx, hb, hml, hown, hts⟩ (k_c10_advance l D _ C L K z r A (r y0 2) _ hw) (cwV 0 hts gX5_goThroughDraw_X10_advance rfl rfl rfl (by decide +kernel) ⟨show 1 + 1 ≤ F + 3 from by omega, show 8 + (1 + 11) + 20 ≤ Lc + 79 from by omega⟩) ⟨hm_blind, va_recv hK hP (ci := 10) (q0 := q9) rfl hq9, hm_pre hP hK hD hE⟩ rfl rfl hl.1 rfl (lv_room (Nat.le_of_ble_eq_true rfl)) dX5_goThroughDraw_231 ⟨Nat.le_of_ble_eq_true rfl, Nat.le_of_ble_eq_true rfl⟩) hS (fun q _ h => hFc q h) hFc (fun u t H1 locs ht hvm hw hB hz1 hk1 hS => ?_)
    obtain ⟨rv_2, z_3, _, _⟩ := u
    obtain ⟨hP, hK1, hD1⟩ := hB
    rw [ht] at hP
    have hD := hD1.weaken (fun k q _ h => hFc q.1 h)
    have hP : va_P D vwCl (cw_w C L K z_3 r A) H1 := hP
    have hD : va_D Ad (cw_w C L K z_3 r A) := hD
    generalize H1 = H at hP hS ⊢
    refine W.eq (g2 := F0 m 234 ls []) rfl ?_
    refine lv_aload_n hx hb dX5_goThroughDraw_234 rfl (lv_at hl 0 rfl) ?_
    refine lv_iload hx hb dX5_goThroughDraw_235 (lv_at hl 1 rfl) ?_
    refine lv_iload hx hb dX5_goThroughDraw_237 (lv_at hl 2 rfl) ?_
    refine lv_lload hx hb dX5_goThroughDraw_239 (lv_at hl 3 rfl) ?_
    refine lv_lload hx hb dX5_goThroughDraw_241 (lv_at hl 4 rfl) ?_
    have hFc := cw_free hD hS hA
    obtain ⟨q9, hq9⟩ := cw_at (C := C) (z := z_3) (r := r) (A := A) hO_1.1 hO_1.2
    refine va_calli (va_runV (As := [.int (hz_i x8), .int (hz_i x9), .long (hz_l x10), .long (hz_l x12)]) (rest := []) ⟨hx, hb, hml, hown, hts⟩ (k_c5_endDraw l D _ C L K z_3 r A y0 x8 x9 x10 x12 _ hw) (cwV 4 hts gX5_goThroughDraw_X5_endDraw rfl rfl rfl (by decide +kernel) ⟨show 1 + 1 ≤ F + 3 from by omega, show 8 + (7 + 11) + 22 ≤ Lc + 79 from by omega⟩) ⟨hm_blind, va_recv hK hP (ci := 5) (q0 := q9) rfl hq9, hm_pre hP hK hD hE⟩ rfl rfl hl.1 rfl (lv_room (Nat.le_of_ble_eq_true rfl)) dX5_goThroughDraw_243 ⟨Nat.le_of_ble_eq_true rfl, Nat.le_of_ble_eq_true rfl⟩) hS (fun q _ h => hFc q h) hFc (fun rv u t H1 locs ht hvm hw hB hz1 hk1 hS => ?_)
    obtain ⟨rv_5, z_6, _, _⟩ := u
    obtain ⟨hP, hK1, hD1⟩ := hB
    rw [ht] at hP
    obtain ⟨hrv, hw⟩ := hw
    subst hrv
    have hD := hD1.weaken (fun k q _ h => hFc q.1 h)
    have hP : va_P D vwCl (cw_w C L K z_6 r A) H1 := hP
    have hD : va_D Ad (cw_w C L K z_6 r A) := hD
    generalize H1 = H at hP hS ⊢
    refine W.eq (g2 := F0 m 246 ls [.int (hz_i rv_5)]) rfl ?_
    obtain ⟨h9z, hw⟩ := hw
    subst hQQ
    subst hAe
    exact W.zret (v := hz_i rv_5) hx hb hr (hz_tZ h9z) (fun t ht hW => ⟨⟨hz_i rv_5, (rv_5, z_6, r, A), rfl, ⟨rfl, hw⟩, by rw [ht]; exact hP, va_K.moved hW.alike hK, hD⟩, hS.F ht⟩) hS.2.2 dX5_goThroughDraw_246
  have L59 : ∀ (z : Nat → Nat → Int) (A : Nat → Nat → Int) (x8 : Int) (x9 : Int) (x10 : Int) (x12 : Int) (x14 : Int), wp_c5_goThroughDraw_59 L K N z r A y0 y1 y2 y4 y6 y7 x8 x9 x10 x12 x14  Q → ∀ (H : Heap) (locs : List Loc) (ls : Array Slot), va_P D vwCl (cw_w C L K z r A) H → va_D Ad (cw_w C L K z r A) → va_S Ad s.heap H locs → lv_has ls 21 [(0, .ref y0), (1, .int (hz_i y1)), (2, .long (hz_l y2)), (4, .long (hz_l y4)), (6, .int (hz_i y6)), (7, .int (hz_i y7)), (8, .int (hz_i x8)), (9, .int (hz_i x9)), (10, .long (hz_l x10)), (12, .long (hz_l x12)), (14, .int (hz_i x14))] → W p l e (headSpec wsX5_goThroughDraw ({ frames := F + 3, cells := 0, slots := 0, locals := Lc + 79 } : Room)).room s m (List.toArray [.ref y0, .int (hz_i y1), .long (hz_l y2), .long (hz_l y4), .int (hz_i y6), .int (hz_i y7)]) below meth c H locs 0 0 QQ (F0 m 59 ls []) := by
    intro z A x8 x9 x10 x12 x14 hw
    obtain ⟨P59, hP59⟩ : ∃ P : (Nat → Nat → Int) → (Nat → Nat → Int) → Int → Int → Int → Int → Prop, ∀ (z : Nat → Nat → Int) (A : Nat → Nat → Int) (x9 : Int) (x10 : Int) (x12 : Int) (x14 : Int), P z A x9 x10 x12 x14 ↔ (∀ (H : Heap) (locs : List Loc) (ls : Array Slot), va_P D vwCl (cw_w C L K z r A) H → va_D Ad (cw_w C L K z r A) → va_S Ad s.heap H locs → lv_has ls 21 [(0, .ref y0), (1, .int (hz_i y1)), (2, .long (hz_l y2)), (4, .long (hz_l y4)), (6, .int (hz_i y6)), (7, .int (hz_i y7)), (8, .int (hz_i x8)), (9, .int (hz_i x9)), (10, .long (hz_l x10)), (12, .long (hz_l x12)), (14, .int (hz_i x14))] → W p l e (headSpec wsX5_goThroughDraw ({ frames := F + 3, cells := 0, slots := 0, locals := Lc + 79 } : Room)).room s m (List.toArray [.ref y0, .int (hz_i y1), .long (hz_l y2), .long (hz_l y4), .int (hz_i y6), .int (hz_i y7)]) below meth c H locs 0 0 QQ (F0 m 59 ls [])) := ⟨fun (z : Nat → Nat → Int) (A : Nat → Nat → Int) (x9 : Int) (x10 : Int) (x12 : Int) (x14 : Int) => ∀ (H : Heap) (locs : List Loc) (ls : Array Slot), va_P D vwCl (cw_w C L K z r A) H → va_D Ad (cw_w C L K z r A) → va_S Ad s.heap H locs → lv_has ls 21 [(0, .ref y0), (1, .int (hz_i y1)), (2, .long (hz_l y2)), (4, .long (hz_l y4)), (6, .int (hz_i y6)), (7, .int (hz_i y7)), (8, .int (hz_i x8)), (9, .int (hz_i x9)), (10, .long (hz_l x10)), (12, .long (hz_l x12)), (14, .int (hz_i x14))] → W p l e (headSpec wsX5_goThroughDraw ({ frames := F + 3, cells := 0, slots := 0, locals := Lc + 79 } : Room)).room s m (List.toArray [.ref y0, .int (hz_i y1), .long (hz_l y2), .long (hz_l y4), .int (hz_i y6), .int (hz_i y7)]) below meth c H locs 0 0 QQ (F0 m 59 ls []), fun _ _ _ _ _ _ => Iff.rfl⟩
    refine (hP59 z A x9 x10 x12 x14).mp (hw P59 ?_)
    intro z A x9 x10 x12 x14 hw
    refine (hP59 z A x9 x10 x12 x14).mpr ?_
    intro H locs ls hP hD hS hl
    have L154 : ∀ (z : Nat → Nat → Int) (A : Nat → Nat → Int) (x9 : Int) (x10 : Int) (x12 : Int) (x14 : Int), wp_c5_goThroughDraw_154 L K N z r A y0 y1 y2 y4 y6 y7 x8 x9 x10 x12 x14 P59 Q → ∀ (H : Heap) (locs : List Loc) (ls : Array Slot), va_P D vwCl (cw_w C L K z r A) H → va_D Ad (cw_w C L K z r A) → va_S Ad s.heap H locs → lv_has ls 21 [(0, .ref y0), (1, .int (hz_i y1)), (2, .long (hz_l y2)), (4, .long (hz_l y4)), (6, .int (hz_i y6)), (7, .int (hz_i y7)), (8, .int (hz_i x8)), (9, .int (hz_i x9)), (10, .long (hz_l x10)), (12, .long (hz_l x12)), (14, .int (hz_i x14))] → W p l e (headSpec wsX5_goThroughDraw ({ frames := F + 3, cells := 0, slots := 0, locals := Lc + 79 } : Room)).room s m (List.toArray [.ref y0, .int (hz_i y1), .long (hz_l y2), .long (hz_l y4), .int (hz_i y6), .int (hz_i y7)]) below meth c H locs 0 0 QQ (F0 m 154 ls []) := by
      intro z A x9 x10 x12 x14 hw H locs ls hP hD hS hl
      refine lv_lload_n hx hb dX5_goThroughDraw_154 rfl (lv_at hl 2 rfl) ?_
      refine lv_aload_n hx hb dX5_goThroughDraw_155 rfl (lv_at hl 0 rfl) ?_
      obtain ⟨hO_7, hw⟩ := hw
      refine cw_get (ci := 5) (v := .long (hz_l (z y0 7))) hx hb hts hin5 hown hK hP hO_7.1 hO_7.2 rfl 7 (by decide) (hts (.fieldLink RX5 43 "HiddenMoves$Reader" "fractionTop" "J") (List.mem_cons_of_mem _ (List.mem_append_left _ (List.mem_append_left _ (List.mem_append_left _ (List.mem_append_left _ (List.mem_append_left _ (List.mem_of_getElem? (i := 7) rfl)))))))) (fun _ h9 => h9) rfl dX5_goThroughDraw_156 ?_
      refine hz_lmul hx hb dX5_goThroughDraw_159 ?_
      refine hz_topl (fun x15_8 hx15_8 => ?_)
      have hw := hw x15_8 hx15_8
      refine lv_lstore (lv' := [(15, .long (hz_l x15_8)), (0, .ref y0), (1, .int (hz_i y1)), (2, .long (hz_l y2)), (4, .long (hz_l y4)), (6, .int (hz_i y6)), (7, .int (hz_i y7)), (8, .int (hz_i x8)), (9, .int (hz_i x9)), (10, .long (hz_l x10)), (12, .long (hz_l x12)), (14, .int (hz_i x14))]) hx hb dX5_goThroughDraw_160 hl (by decide) rfl (fun ls hl => ?_)
      refine lv_lload hx hb dX5_goThroughDraw_162 (lv_at hl 4 rfl) ?_
      refine lv_aload_n hx hb dX5_goThroughDraw_164 rfl (lv_at hl 1 rfl) ?_
      refine cw_get (ci := 5) (v := .long (hz_l (z y0 8))) hx hb hts hin5 hown hK hP hO_7.1 hO_7.2 rfl 8 (by decide) (hts (.fieldLink RX5 47 "HiddenMoves$Reader" "fractionBottom" "J") (List.mem_cons_of_mem _ (List.mem_append_left _ (List.mem_append_left _ (List.mem_append_left _ (List.mem_append_left _ (List.mem_append_left _ (List.mem_of_getElem? (i := 6) rfl)))))))) (fun _ h9 => h9) rfl dX5_goThroughDraw_165 ?_
      refine hz_lmul hx hb dX5_goThroughDraw_168 ?_
      refine hz_topl (fun x17_9 hx17_9 => ?_)
      have hw := hw x17_9 hx17_9
      refine lv_lstore (lv' := [(17, .long (hz_l x17_9)), (15, .long (hz_l x15_8)), (0, .ref y0), (1, .int (hz_i y1)), (2, .long (hz_l y2)), (4, .long (hz_l y4)), (6, .int (hz_i y6)), (7, .int (hz_i y7)), (8, .int (hz_i x8)), (9, .int (hz_i x9)), (10, .long (hz_l x10)), (12, .long (hz_l x12)), (14, .int (hz_i x14))]) hx hb dX5_goThroughDraw_169 hl (by decide) rfl (fun ls hl => ?_)
      refine lv_lload hx hb dX5_goThroughDraw_171 (lv_at hl 1 rfl) ?_
      refine lv_lload hx hb dX5_goThroughDraw_173 (lv_at hl 0 rfl) ?_
      have hFc := cw_free hD hS hA
      refine va_calll (va_runSN (As := [.long (hz_l x15_8), .long (hz_l x17_9)]) (rest := []) ⟨hx, hb, hml, hown, hts⟩ (k_c11_gcd l D _ C L K z r A x15_8 x17_9 _ hw) ⟨va_cnB 2 hts gX5_goThroughDraw_X11_gcd_n136 rfl rfl rfl (hE.nest_RX5_136) (hts (.initialized RX11) (List.mem_cons_of_mem _ (List.mem_append_left _ (List.mem_append_left _ (List.mem_append_left _ (List.mem_append_left _ (List.mem_append_right _ (List.mem_append_left _ (List.mem_of_getElem? (i := 15) rfl))))))))) (by decide +kernel) ⟨show 1 + 1 ≤ F + 3 from by omega, show 8 + (11 + 11) + 20 ≤ Lc + 79 from by omega⟩, hts (.static yX11_gcd) (List.mem_cons_of_mem _ (List.mem_append_left _ (List.mem_append_left _ (List.mem_append_left _ (List.mem_append_left _ (List.mem_append_right _ (List.mem_append_left _ (List.mem_of_getElem? (i := 14) rfl)))))))), trivial⟩ ⟨hm_blind, hm_pre hP hK hD hE⟩ rfl rfl hl.1 rfl (lv_room (Nat.le_of_ble_eq_true rfl)) dX5_goThroughDraw_175 ⟨Nat.le_of_ble_eq_true rfl, Nat.le_of_ble_eq_true rfl⟩) hS (fun q _ h => hFc q h) hFc (fun rv u t H1 locs ht hvm hw hB hz1 hk1 hS => ?_)
      obtain ⟨rv_10, _, _, _⟩ := u
      obtain ⟨hP, hK1, hD1⟩ := hB
      rw [ht] at hP
      obtain ⟨hrv, hw⟩ := hw
      subst hrv
      have hD := hD1.weaken (fun k q _ h => hFc q.1 h)
      have hP : va_P D vwCl (cw_w C L K z r A) H1 := hP
      have hD : va_D Ad (cw_w C L K z r A) := hD
      generalize H1 = H at hP hS ⊢
      refine W.eq (g2 := F0 m 178 ls [.long (hz_l rv_10)]) rfl ?_
      refine lv_lstore (lv' := [(19, .long (hz_l rv_10)), (17, .long (hz_l x17_9)), (15, .long (hz_l x15_8)), (0, .ref y0), (1, .int (hz_i y1)), (2, .long (hz_l y2)), (4, .long (hz_l y4)), (6, .int (hz_i y6)), (7, .int (hz_i y7)), (8, .int (hz_i x8)), (9, .int (hz_i x9)), (10, .long (hz_l x10)), (12, .long (hz_l x12)), (14, .int (hz_i x14))]) hx hb dX5_goThroughDraw_178 hl (by decide) rfl (fun ls hl => ?_)
      refine lv_lload hx hb dX5_goThroughDraw_180 (lv_at hl 2 rfl) ?_
      refine lv_lload hx hb dX5_goThroughDraw_182 (lv_at hl 0 rfl) ?_
      have hFc := cw_free hD hS hA
      refine va_calll (va_runSN (As := [.long (hz_l x15_8), .long (hz_l rv_10)]) (rest := []) ⟨hx, hb, hml, hown, hts⟩ (k_c11_quotient l D _ C L K z r A x15_8 rv_10 _ hw) ⟨va_cnB 2 hts gX5_goThroughDraw_X11_quotient_n140 rfl rfl rfl (hE.nest_RX5_140) (hts (.initialized RX11) (List.mem_cons_of_mem _ (List.mem_append_left _ (List.mem_append_left _ (List.mem_append_left _ (List.mem_append_left _ (List.mem_append_right _ (List.mem_append_left _ (List.mem_of_getElem? (i := 15) rfl))))))))) (by decide +kernel) ⟨show 0 + 1 ≤ F + 3 from by omega, show 8 + (4 + 11) + 0 ≤ Lc + 79 from by omega⟩, hts (.static yX11_quotient) (List.mem_cons_of_mem _ (List.mem_append_left _ (List.mem_append_left _ (List.mem_append_left _ (List.mem_append_left _ (List.mem_append_right _ (List.mem_append_left _ (List.mem_of_getElem? (i := 21) rfl)))))))), trivial⟩ ⟨hm_blind, hm_pre hP hK hD hE⟩ rfl rfl hl.1 rfl (lv_room (Nat.le_of_ble_eq_true rfl)) dX5_goThroughDraw_184 ⟨Nat.le_of_ble_eq_true rfl, Nat.le_of_ble_eq_true rfl⟩) hS (fun q _ h => hFc q h) hFc (fun rv u t H1 locs ht hvm hw hB hz1 hk1 hS => ?_)
      obtain ⟨rv_11, _, _, _⟩ := u
      obtain ⟨hP, hK1, hD1⟩ := hB
      rw [ht] at hP
      obtain ⟨hrv, hw⟩ := hw
      subst hrv
      have hD := hD1.weaken (fun k q _ h => hFc q.1 h)
      have hP : va_P D vwCl (cw_w C L K z r A) H1 := hP
      have hD : va_D Ad (cw_w C L K z r A) := hD
      generalize H1 = H at hP hS ⊢
      refine W.eq (g2 := F0 m 187 ls [.long (hz_l rv_11)]) rfl ?_
      refine lv_lstore (lv' := [(15, .long (hz_l rv_11)), (19, .long (hz_l rv_10)), (17, .long (hz_l x17_9)), (0, .ref y0), (1, .int (hz_i y1)), (2, .long (hz_l y2)), (4, .long (hz_l y4)), (6, .int (hz_i y6)), (7, .int (hz_i y7)), (8, .int (hz_i x8)), (9, .int (hz_i x9)), (10, .long (hz_l x10)), (12, .long (hz_l x12)), (14, .int (hz_i x14))]) hx hb dX5_goThroughDraw_187 hl (by decide) rfl (fun ls hl => ?_)
      refine lv_lload hx hb dX5_goThroughDraw_189 (lv_at hl 2 rfl) ?_
      refine lv_lload hx hb dX5_goThroughDraw_191 (lv_at hl 1 rfl) ?_
      have hFc := cw_free hD hS hA
      refine va_calll (va_runSN (As := [.long (hz_l x17_9), .long (hz_l rv_10)]) (rest := []) ⟨hx, hb, hml, hown, hts⟩ (k_c11_quotient l D _ C L K z r A x17_9 rv_10 _ hw) ⟨va_cnB 2 hts gX5_goThroughDraw_X11_quotient_n140 rfl rfl rfl (hE.nest_RX5_140) (hts (.initialized RX11) (List.mem_cons_of_mem _ (List.mem_append_left _ (List.mem_append_left _ (List.mem_append_left _ (List.mem_append_left _ (List.mem_append_right _ (List.mem_append_left _ (List.mem_of_getElem? (i := 15) rfl))))))))) (by decide +kernel) ⟨show 0 + 1 ≤ F + 3 from by omega, show 8 + (4 + 11) + 0 ≤ Lc + 79 from by omega⟩, hts (.static yX11_quotient) (List.mem_cons_of_mem _ (List.mem_append_left _ (List.mem_append_left _ (List.mem_append_left _ (List.mem_append_left _ (List.mem_append_right _ (List.mem_append_left _ (List.mem_of_getElem? (i := 21) rfl)))))))), trivial⟩ ⟨hm_blind, hm_pre hP hK hD hE⟩ rfl rfl hl.1 rfl (lv_room (Nat.le_of_ble_eq_true rfl)) dX5_goThroughDraw_193 ⟨Nat.le_of_ble_eq_true rfl, Nat.le_of_ble_eq_true rfl⟩) hS (fun q _ h => hFc q h) hFc (fun rv u t H1 locs ht hvm hw hB hz1 hk1 hS => ?_)
      obtain ⟨rv_12, _, _, _⟩ := u
      obtain ⟨hP, hK1, hD1⟩ := hB
      rw [ht] at hP
      obtain ⟨hrv, hw⟩ := hw
      subst hrv
      have hD := hD1.weaken (fun k q _ h => hFc q.1 h)
      have hP : va_P D vwCl (cw_w C L K z r A) H1 := hP
      have hD : va_D Ad (cw_w C L K z r A) := hD
      generalize H1 = H at hP hS ⊢
      refine W.eq (g2 := F0 m 196 ls [.long (hz_l rv_12)]) rfl ?_
      refine lv_lstore (lv' := [(17, .long (hz_l rv_12)), (15, .long (hz_l rv_11)), (19, .long (hz_l rv_10)), (0, .ref y0), (1, .int (hz_i y1)), (2, .long (hz_l y2)), (4, .long (hz_l y4)), (6, .int (hz_i y6)), (7, .int (hz_i y7)), (8, .int (hz_i x8)), (9, .int (hz_i x9)), (10, .long (hz_l x10)), (12, .long (hz_l x12)), (14, .int (hz_i x14))]) hx hb dX5_goThroughDraw_196 hl (by decide) rfl (fun ls hl => ?_)
      refine lv_aload_n hx hb dX5_goThroughDraw_198 rfl (lv_at hl 3 rfl) ?_
      refine lv_iload_n hx hb dX5_goThroughDraw_199 rfl (lv_at hl 4 rfl) ?_
      refine lv_iconst (v := hz_i 1) hx hb dX5_goThroughDraw_200 (by decide +kernel) ?_
      refine hz_iadd hx hb dX5_goThroughDraw_201 ?_
      refine lv_lload hx hb dX5_goThroughDraw_202 (lv_at hl 1 rfl) ?_
      refine lv_lload hx hb dX5_goThroughDraw_204 (lv_at hl 0 rfl) ?_
      refine lv_iload hx hb dX5_goThroughDraw_206 (lv_at hl 7 rfl) ?_
      refine lv_iload hx hb dX5_goThroughDraw_208 (lv_at hl 8 rfl) ?_
      have hFc := cw_free hD hS hA
      obtain ⟨q9, hq9⟩ := cw_at (C := C) (z := z) (r := r) (A := A) hO_7.1 hO_7.2
      refine va_calli (va_runV (As := [.int (hz_i (y1 + 1)), .long (hz_l rv_11), .long (hz_l rv_12), .int (hz_i y6), .int (hz_i y7)]) (rest := []) ⟨hx, hb, hml, hown, hts⟩ (hN z A y0 (y1 + 1) rv_11 rv_12 y6 y7 _ hw _) (cwV 5 hts gX5_goThroughDraw_X5_goThroughNode rfl rfl rfl (by decide +kernel) ⟨show F + 1 ≤ F + 3 from by omega, show 8 + (8 + 11) + Lc ≤ Lc + 79 from by omega⟩) ⟨hm_blind, va_recv hK hP (ci := 5) (q0 := q9) rfl hq9, hm_pre hP hK hD hE⟩ rfl rfl hl.1 rfl (lv_room (Nat.le_of_ble_eq_true rfl)) dX5_goThroughDraw_210 ⟨Nat.le_of_ble_eq_true rfl, Nat.le_of_ble_eq_true rfl⟩) hS (fun q _ h => hFc q h) hFc (fun rv u t H1 locs ht hvm hw hB hz1 hk1 hS => ?_)
      obtain ⟨rv_13, z_14, _, A_15⟩ := u
      obtain ⟨hP, hK1, hD1⟩ := hB
      rw [ht] at hP
      obtain ⟨hrv, hw⟩ := hw
      subst hrv
      have hD := hD1.weaken (fun k q _ h => hFc q.1 h)
      have hP : va_P D vwCl (cw_w C L K z_14 r A_15) H1 := hP
      have hD : va_D Ad (cw_w C L K z_14 r A_15) := hD
      generalize H1 = H at hP hS ⊢
      refine W.eq (g2 := F0 m 213 ls [.int (hz_i rv_13)]) rfl ?_
      obtain ⟨h9a, hw⟩ := hw
      refine hz_if_ne (tgt := 218) hx hb dX5_goThroughDraw_213 (by decide) h9a (fun c_16 => ?_) (fun c_16 => ?_)
      · have hw := hw.1 c_16
        obtain ⟨x9_17, hx9_17⟩ : ∃ y : Int, y = x9 + 1 := ⟨_, rfl⟩
        have hw := hw x9_17 hx9_17
        refine lv_iinc (v := hz_i x9_17) (lv' := [(9, .int (hz_i x9_17)), (17, .long (hz_l rv_12)), (15, .long (hz_l rv_11)), (19, .long (hz_l rv_10)), (0, .ref y0), (1, .int (hz_i y1)), (2, .long (hz_l y2)), (4, .long (hz_l y4)), (6, .int (hz_i y6)), (7, .int (hz_i y7)), (8, .int (hz_i x8)), (10, .long (hz_l x10)), (12, .long (hz_l x12)), (14, .int (hz_i x14))]) hx hb dX5_goThroughDraw_218 hl (k := 10) rfl (by rw [hx9_17]; exact hz_i_add _ _) (by decide) rfl (fun ls hl => ?_)
        obtain ⟨x14_18, hx14_18⟩ : ∃ y : Int, y = x14 + 1 := ⟨_, rfl⟩
        have hw := hw x14_18 hx14_18
        refine lv_iinc (v := hz_i x14_18) (lv' := [(14, .int (hz_i x14_18)), (9, .int (hz_i x9_17)), (17, .long (hz_l rv_12)), (15, .long (hz_l rv_11)), (19, .long (hz_l rv_10)), (0, .ref y0), (1, .int (hz_i y1)), (2, .long (hz_l y2)), (4, .long (hz_l y4)), (6, .int (hz_i y6)), (7, .int (hz_i y7)), (8, .int (hz_i x8)), (10, .long (hz_l x10)), (12, .long (hz_l x12))]) hx hb dX5_goThroughDraw_221 hl (k := 13) rfl (by rw [hx14_18]; exact hz_i_add _ _) (by decide) rfl (fun ls hl => ?_)
        refine lv_goto (tgt := 59) hx hb dX5_goThroughDraw_224 (by decide) ?_
        exact (hP59 z_14 A_15 x9_17 x10 x12 x14_18).mp hw H locs ls hP hD hS (lv_sub hl [5, 6, 7, 8, 9, 10, 11, 1, 12, 13, 0] rfl)
      · have hw := hw.2 c_16
        refine lv_iconst (v := hz_i 0) hx hb dX5_goThroughDraw_216 (by decide +kernel) ?_
        subst hQQ
        subst hAe
        exact W.zret (v := hz_i 0) hx hb hr (hz_tZ (by decide)) (fun t ht hW => ⟨⟨hz_i 0, (0, z_14, r, A_15), rfl, ⟨rfl, hw⟩, by rw [ht]; exact hP, va_K.moved hW.alike hK, hD⟩, hS.F ht⟩) hS.2.2 dX5_goThroughDraw_217
    refine lv_iload hx hb dX5_goThroughDraw_59 (lv_at hl 10 rfl) ?_
    refine lv_sipush (v := hz_i 400) hx hb dX5_goThroughDraw_61 (by decide +kernel) ?_
    obtain ⟨h9a, hw⟩ := hw
    refine hz_icmp_ge (tgt := 227) hx hb dX5_goThroughDraw_64 (by decide) h9a ⟨by decide, by decide⟩ (fun c_19 => ?_) (fun c_19 => ?_)
    · have hw := hw.1 c_19
      exact L227 z A x8 x9 x10 x12 hw H locs ls hP hD hS (lv_sub hl [0, 6, 7, 8, 9] rfl)
    · have hw := hw.2 c_19
      refine lv_aload_n hx hb dX5_goThroughDraw_67 rfl (lv_at hl 0 rfl) ?_
      obtain ⟨hO_20, hw⟩ := hw
      refine cw_get (ci := 5) (v := .ref (r y0 2)) hx hb hts hin5 hown hK hP hO_20.1 hO_20.2 rfl 2 (by decide) (hts (.fieldLink RX5 21 "HiddenMoves$Reader" "words" "LHiddenMoves$Words;") (List.mem_cons_of_mem _ (List.mem_append_left _ (List.mem_append_left _ (List.mem_append_left _ (List.mem_append_left _ (List.mem_append_left _ (List.mem_of_getElem? (i := 0) rfl)))))))) (fun _ h9 => h9) rfl dX5_goThroughDraw_68 ?_
      obtain ⟨hO_21, hw⟩ := hw
      refine cw_get (ci := 10) (v := .int (hz_i (z (r y0 2) 2))) hx hb hts hin10 hown hK hP hO_21.1 hO_21.2 rfl 2 (by decide) (hts (.fieldLink RX5 88 "HiddenMoves$Words" "kind" "I") (List.mem_cons_of_mem _ (List.mem_append_left _ (List.mem_append_left _ (List.mem_append_left _ (List.mem_append_left _ (List.mem_append_left _ (List.mem_of_getElem? (i := 5) rfl)))))))) (fun _ h9 => h9) rfl dX5_goThroughDraw_71 ?_
      refine lv_bipush (v := hz_i 41) hx hb dX5_goThroughDraw_74 (by decide +kernel) ?_
      obtain ⟨h9a, hw⟩ := hw
      refine hz_icmp_eq (tgt := 227) hx hb dX5_goThroughDraw_76 (by decide) h9a ⟨by decide, by decide⟩ (fun c_22 => ?_) (fun c_22 => ?_)
      · have hw := hw.1 c_22
        exact L227 z A x8 x9 x10 x12 hw H locs ls hP hD hS (lv_sub hl [0, 6, 7, 8, 9] rfl)
      · have hw := hw.2 c_22
        refine lv_aload_n hx hb dX5_goThroughDraw_79 rfl (lv_at hl 0 rfl) ?_
        refine cw_get (ci := 5) (v := .ref (r y0 2)) hx hb hts hin5 hown hK hP hO_20.1 hO_20.2 rfl 2 (by decide) (hts (.fieldLink RX5 21 "HiddenMoves$Reader" "words" "LHiddenMoves$Words;") (List.mem_cons_of_mem _ (List.mem_append_left _ (List.mem_append_left _ (List.mem_append_left _ (List.mem_append_left _ (List.mem_append_left _ (List.mem_of_getElem? (i := 0) rfl)))))))) (fun _ h9 => h9) rfl dX5_goThroughDraw_80 ?_
        have hFc := cw_free hD hS hA
        obtain ⟨q9, hq9⟩ := cw_at (C := C) (z := z) (r := r) (A := A) hO_21.1 hO_21.2
        refine va_callv (va_runV (As := []) (rest := []) ⟨hx, hb, hml, hown, hts⟩ (k_c10_advance l D _ C L K z r A (r y0 2) _ hw) (cwV 0 hts gX5_goThroughDraw_X10_advance rfl rfl rfl (by decide +kernel) ⟨show 1 + 1 ≤ F + 3 from by omega, show 8 + (1 + 11) + 20 ≤ Lc + 79 from by omega⟩) ⟨hm_blind, va_recv hK hP (ci := 10) (q0 := q9) rfl hq9, hm_pre hP hK hD hE⟩ rfl rfl hl.1 rfl (lv_room (Nat.le_of_ble_eq_true rfl)) dX5_goThroughDraw_83 ⟨Nat.le_of_ble_eq_true rfl, Nat.le_of_ble_eq_true rfl⟩) hS (fun q _ h => hFc q h) hFc (fun u t H1 locs ht hvm hw hB hz1 hk1 hS => ?_)
        obtain ⟨rv_23, z_24, _, _⟩ := u
        obtain ⟨hP, hK1, hD1⟩ := hB
        rw [ht] at hP
        have hD := hD1.weaken (fun k q _ h => hFc q.1 h)
        have hP : va_P D vwCl (cw_w C L K z_24 r A) H1 := hP
        have hD : va_D Ad (cw_w C L K z_24 r A) := hD
        generalize H1 = H at hP hS ⊢
        refine W.eq (g2 := F0 m 86 ls []) rfl ?_
        refine lv_aload_n hx hb dX5_goThroughDraw_86 rfl (lv_at hl 0 rfl) ?_
        refine lv_iconst (v := hz_i 1) hx hb dX5_goThroughDraw_87 (by decide +kernel) ?_
        have hFc := cw_free hD hS hA
        obtain ⟨q9, hq9⟩ := cw_at (C := C) (z := z_24) (r := r) (A := A) hO_20.1 hO_20.2
        refine va_calli (va_runV (As := [.int (hz_i 1)]) (rest := []) ⟨hx, hb, hml, hown, hts⟩ (k_c5_goThroughFraction l D _ C L K z_24 r A y0 1 _ hw) (cwV 1 hts gX5_goThroughDraw_X5_goThroughFraction rfl rfl rfl (by decide +kernel) ⟨show 2 + 1 ≤ F + 3 from by omega, show 8 + (10 + 11) + 50 ≤ Lc + 79 from by omega⟩) ⟨hm_blind, va_recv hK hP (ci := 5) (q0 := q9) rfl hq9, hm_pre hP hK hD hE⟩ rfl rfl hl.1 rfl (lv_room (Nat.le_of_ble_eq_true rfl)) dX5_goThroughDraw_88 ⟨Nat.le_of_ble_eq_true rfl, Nat.le_of_ble_eq_true rfl⟩) hS (fun q _ h => hFc q h) hFc (fun rv u t H1 locs ht hvm hw hB hz1 hk1 hS => ?_)
        obtain ⟨rv_25, z_26, _, _⟩ := u
        obtain ⟨hP, hK1, hD1⟩ := hB
        rw [ht] at hP
        obtain ⟨hrv, hw⟩ := hw
        subst hrv
        have hD := hD1.weaken (fun k q _ h => hFc q.1 h)
        have hP : va_P D vwCl (cw_w C L K z_26 r A) H1 := hP
        have hD : va_D Ad (cw_w C L K z_26 r A) := hD
        generalize H1 = H at hP hS ⊢
        refine W.eq (g2 := F0 m 91 ls [.int (hz_i rv_25)]) rfl ?_
        obtain ⟨h9a, hw⟩ := hw
        refine hz_if_ne (tgt := 96) hx hb dX5_goThroughDraw_91 (by decide) h9a (fun c_27 => ?_) (fun c_27 => ?_)
        · have hw := hw.1 c_27
          refine lv_aload_n hx hb dX5_goThroughDraw_96 rfl (lv_at hl 0 rfl) ?_
          refine cw_get (ci := 5) (v := .ref (r y0 2)) hx hb hts hin5 hown hK hP hO_20.1 hO_20.2 rfl 2 (by decide) (hts (.fieldLink RX5 21 "HiddenMoves$Reader" "words" "LHiddenMoves$Words;") (List.mem_cons_of_mem _ (List.mem_append_left _ (List.mem_append_left _ (List.mem_append_left _ (List.mem_append_left _ (List.mem_append_left _ (List.mem_of_getElem? (i := 0) rfl)))))))) (fun _ h9 => h9) rfl dX5_goThroughDraw_97 ?_
          have hFc := cw_free hD hS hA
          obtain ⟨q9, hq9⟩ := cw_at (C := C) (z := z_26) (r := r) (A := A) hO_21.1 hO_21.2
          refine va_callv (va_runV (As := []) (rest := []) ⟨hx, hb, hml, hown, hts⟩ (k_c10_advance l D _ C L K z_26 r A (r y0 2) _ hw) (cwV 0 hts gX5_goThroughDraw_X10_advance rfl rfl rfl (by decide +kernel) ⟨show 1 + 1 ≤ F + 3 from by omega, show 8 + (1 + 11) + 20 ≤ Lc + 79 from by omega⟩) ⟨hm_blind, va_recv hK hP (ci := 10) (q0 := q9) rfl hq9, hm_pre hP hK hD hE⟩ rfl rfl hl.1 rfl (lv_room (Nat.le_of_ble_eq_true rfl)) dX5_goThroughDraw_100 ⟨Nat.le_of_ble_eq_true rfl, Nat.le_of_ble_eq_true rfl⟩) hS (fun q _ h => hFc q h) hFc (fun u t H1 locs ht hvm hw hB hz1 hk1 hS => ?_)
          obtain ⟨rv_28, z_29, _, _⟩ := u
          obtain ⟨hP, hK1, hD1⟩ := hB
          rw [ht] at hP
          have hD := hD1.weaken (fun k q _ h => hFc q.1 h)
          have hP : va_P D vwCl (cw_w C L K z_29 r A) H1 := hP
          have hD : va_D Ad (cw_w C L K z_29 r A) := hD
          generalize H1 = H at hP hS ⊢
          refine W.eq (g2 := F0 m 103 ls []) rfl ?_
          refine lv_lload hx hb dX5_goThroughDraw_103 (lv_at hl 8 rfl) ?_
          refine lv_ldc2 hx hb hown (hts (.constantLong RX5 124 (1000000000)) (List.mem_cons_of_mem _ (List.mem_append_left _ (List.mem_append_left _ (List.mem_append_left _ (List.mem_append_left _ (List.mem_append_left _ (List.mem_of_getElem? (i := 2) rfl)))))))) dX5_goThroughDraw_105 ?_
          refine hz_asl (b := 1000000000) (by decide +kernel) ?_
          obtain ⟨h9a, hw⟩ := hw
          refine hz_lcmp_ge (tgt := 154) hx hb dX5_goThroughDraw_108 dX5_goThroughDraw_109 (by decide) h9a ⟨by decide, by decide⟩ (fun c_30 => ?_) (fun c_30 => ?_)
          · have hw := hw.1 c_30
            exact L154 z_29 A x9 x10 x12 x14 hw H locs ls hP hD hS (lv_sub hl [0, 1, 2, 3, 4, 5, 6, 7, 8, 9, 10] rfl)
          · have hw := hw.2 c_30
            refine lv_lload hx hb dX5_goThroughDraw_112 (lv_at hl 8 rfl) ?_
            refine lv_aload_n hx hb dX5_goThroughDraw_114 rfl (lv_at hl 0 rfl) ?_
            refine cw_get (ci := 5) (v := .long (hz_l (z_29 y0 8))) hx hb hts hin5 hown hK hP hO_20.1 hO_20.2 rfl 8 (by decide) (hts (.fieldLink RX5 47 "HiddenMoves$Reader" "fractionBottom" "J") (List.mem_cons_of_mem _ (List.mem_append_left _ (List.mem_append_left _ (List.mem_append_left _ (List.mem_append_left _ (List.mem_append_left _ (List.mem_of_getElem? (i := 6) rfl)))))))) (fun _ h9 => h9) rfl dX5_goThroughDraw_115 ?_
            have hFc := cw_free hD hS hA
            refine va_calll (va_runSN (As := [.long (hz_l x10), .long (hz_l (z_29 y0 8))]) (rest := []) ⟨hx, hb, hml, hown, hts⟩ (k_c11_lcm l D _ C L K z_29 r A x10 (z_29 y0 8) _ hw) ⟨va_cnB 2 hts gX5_goThroughDraw_X11_lcm_n146 rfl rfl rfl (hE.nest_RX5_146) (hts (.initialized RX11) (List.mem_cons_of_mem _ (List.mem_append_left _ (List.mem_append_left _ (List.mem_append_left _ (List.mem_append_left _ (List.mem_append_right _ (List.mem_append_left _ (List.mem_of_getElem? (i := 15) rfl))))))))) (by decide +kernel) ⟨show 2 + 1 ≤ F + 3 from by omega, show 8 + (4 + 11) + 50 ≤ Lc + 79 from by omega⟩, hts (.static yX11_lcm) (List.mem_cons_of_mem _ (List.mem_append_left _ (List.mem_append_left _ (List.mem_append_left _ (List.mem_append_left _ (List.mem_append_right _ (List.mem_append_left _ (List.mem_of_getElem? (i := 23) rfl)))))))), trivial⟩ ⟨hm_blind, hm_pre hP hK hD hE⟩ rfl rfl hl.1 rfl (lv_room (Nat.le_of_ble_eq_true rfl)) dX5_goThroughDraw_118 ⟨Nat.le_of_ble_eq_true rfl, Nat.le_of_ble_eq_true rfl⟩) hS (fun q _ h => hFc q h) hFc (fun rv u t H1 locs ht hvm hw hB hz1 hk1 hS => ?_)
            obtain ⟨rv_31, _, _, _⟩ := u
            obtain ⟨hP, hK1, hD1⟩ := hB
            rw [ht] at hP
            obtain ⟨hrv, hw⟩ := hw
            subst hrv
            have hD := hD1.weaken (fun k q _ h => hFc q.1 h)
            have hP : va_P D vwCl (cw_w C L K z_29 r A) H1 := hP
            have hD : va_D Ad (cw_w C L K z_29 r A) := hD
            generalize H1 = H at hP hS ⊢
            refine W.eq (g2 := F0 m 121 ls [.long (hz_l rv_31)]) rfl ?_
            refine lv_lstore (lv' := [(15, .long (hz_l rv_31)), (0, .ref y0), (1, .int (hz_i y1)), (2, .long (hz_l y2)), (4, .long (hz_l y4)), (6, .int (hz_i y6)), (7, .int (hz_i y7)), (8, .int (hz_i x8)), (9, .int (hz_i x9)), (10, .long (hz_l x10)), (12, .long (hz_l x12)), (14, .int (hz_i x14))]) hx hb dX5_goThroughDraw_121 hl (by decide) rfl (fun ls hl => ?_)
            refine lv_lload hx hb dX5_goThroughDraw_123 (lv_at hl 10 rfl) ?_
            refine lv_lload hx hb dX5_goThroughDraw_125 (lv_at hl 0 rfl) ?_
            refine lv_lload hx hb dX5_goThroughDraw_127 (lv_at hl 9 rfl) ?_
            have hFc := cw_free hD hS hA
            refine va_calll (va_runSN (As := [.long (hz_l rv_31), .long (hz_l x10)]) (rest := [.long (hz_l x12)]) ⟨hx, hb, hml, hown, hts⟩ (k_c11_quotient l D _ C L K z_29 r A rv_31 x10 _ hw) ⟨va_cnB 2 hts gX5_goThroughDraw_X11_quotient_n140 rfl rfl rfl (hE.nest_RX5_140) (hts (.initialized RX11) (List.mem_cons_of_mem _ (List.mem_append_left _ (List.mem_append_left _ (List.mem_append_left _ (List.mem_append_left _ (List.mem_append_right _ (List.mem_append_left _ (List.mem_of_getElem? (i := 15) rfl))))))))) (by decide +kernel) ⟨show 0 + 1 ≤ F + 3 from by omega, show 8 + (4 + 11) + 0 ≤ Lc + 79 from by omega⟩, hts (.static yX11_quotient) (List.mem_cons_of_mem _ (List.mem_append_left _ (List.mem_append_left _ (List.mem_append_left _ (List.mem_append_left _ (List.mem_append_right _ (List.mem_append_left _ (List.mem_of_getElem? (i := 21) rfl)))))))), trivial⟩ ⟨hm_blind, hm_pre hP hK hD hE⟩ rfl rfl hl.1 rfl (lv_room (Nat.le_of_ble_eq_true rfl)) dX5_goThroughDraw_129 ⟨Nat.le_of_ble_eq_true rfl, Nat.le_of_ble_eq_true rfl⟩) hS (fun q _ h => hFc q h) hFc (fun rv u t H1 locs ht hvm hw hB hz1 hk1 hS => ?_)
            obtain ⟨rv_32, _, _, _⟩ := u
            obtain ⟨hP, hK1, hD1⟩ := hB
            rw [ht] at hP
            obtain ⟨hrv, hw⟩ := hw
            subst hrv
            have hD := hD1.weaken (fun k q _ h => hFc q.1 h)
            have hP : va_P D vwCl (cw_w C L K z_29 r A) H1 := hP
            have hD : va_D Ad (cw_w C L K z_29 r A) := hD
            generalize H1 = H at hP hS ⊢
            refine W.eq (g2 := F0 m 132 ls [.long (hz_l rv_32), .long (hz_l x12)]) rfl ?_
            refine hz_lmul hx hb dX5_goThroughDraw_132 ?_
            refine lv_aload_n hx hb dX5_goThroughDraw_133 rfl (lv_at hl 1 rfl) ?_
            refine cw_get (ci := 5) (v := .long (hz_l (z_29 y0 7))) hx hb hts hin5 hown hK hP hO_20.1 hO_20.2 rfl 7 (by decide) (hts (.fieldLink RX5 43 "HiddenMoves$Reader" "fractionTop" "J") (List.mem_cons_of_mem _ (List.mem_append_left _ (List.mem_append_left _ (List.mem_append_left _ (List.mem_append_left _ (List.mem_append_left _ (List.mem_of_getElem? (i := 7) rfl)))))))) (fun _ h9 => h9) rfl dX5_goThroughDraw_134 ?_
            refine lv_lload hx hb dX5_goThroughDraw_137 (lv_at hl 0 rfl) ?_
            refine lv_aload_n hx hb dX5_goThroughDraw_139 rfl (lv_at hl 1 rfl) ?_
            refine cw_get (ci := 5) (v := .long (hz_l (z_29 y0 8))) hx hb hts hin5 hown hK hP hO_20.1 hO_20.2 rfl 8 (by decide) (hts (.fieldLink RX5 47 "HiddenMoves$Reader" "fractionBottom" "J") (List.mem_cons_of_mem _ (List.mem_append_left _ (List.mem_append_left _ (List.mem_append_left _ (List.mem_append_left _ (List.mem_append_left _ (List.mem_of_getElem? (i := 6) rfl)))))))) (fun _ h9 => h9) rfl dX5_goThroughDraw_140 ?_
            have hFc := cw_free hD hS hA
            refine va_calll (va_runSN (As := [.long (hz_l rv_31), .long (hz_l (z_29 y0 8))]) (rest := [.long (hz_l (z_29 y0 7)), .long (hz_l (x12 * rv_32))]) ⟨hx, hb, hml, hown, hts⟩ (k_c11_quotient l D _ C L K z_29 r A rv_31 (z_29 y0 8) _ hw) ⟨va_cnB 2 hts gX5_goThroughDraw_X11_quotient_n140 rfl rfl rfl (hE.nest_RX5_140) (hts (.initialized RX11) (List.mem_cons_of_mem _ (List.mem_append_left _ (List.mem_append_left _ (List.mem_append_left _ (List.mem_append_left _ (List.mem_append_right _ (List.mem_append_left _ (List.mem_of_getElem? (i := 15) rfl))))))))) (by decide +kernel) ⟨show 0 + 1 ≤ F + 3 from by omega, show 8 + (4 + 11) + 0 ≤ Lc + 79 from by omega⟩, hts (.static yX11_quotient) (List.mem_cons_of_mem _ (List.mem_append_left _ (List.mem_append_left _ (List.mem_append_left _ (List.mem_append_left _ (List.mem_append_right _ (List.mem_append_left _ (List.mem_of_getElem? (i := 21) rfl)))))))), trivial⟩ ⟨hm_blind, hm_pre hP hK hD hE⟩ rfl rfl hl.1 rfl (lv_room (Nat.le_of_ble_eq_true rfl)) dX5_goThroughDraw_143 ⟨Nat.le_of_ble_eq_true rfl, Nat.le_of_ble_eq_true rfl⟩) hS (fun q _ h => hFc q h) hFc (fun rv u t H1 locs ht hvm hw hB hz1 hk1 hS => ?_)
            obtain ⟨rv_33, _, _, _⟩ := u
            obtain ⟨hP, hK1, hD1⟩ := hB
            rw [ht] at hP
            obtain ⟨hrv, hw⟩ := hw
            subst hrv
            have hD := hD1.weaken (fun k q _ h => hFc q.1 h)
            have hP : va_P D vwCl (cw_w C L K z_29 r A) H1 := hP
            have hD : va_D Ad (cw_w C L K z_29 r A) := hD
            generalize H1 = H at hP hS ⊢
            refine W.eq (g2 := F0 m 146 ls [.long (hz_l rv_33), .long (hz_l (z_29 y0 7)), .long (hz_l (x12 * rv_32))]) rfl ?_
            refine hz_lmul hx hb dX5_goThroughDraw_146 ?_
            refine hz_ladd hx hb dX5_goThroughDraw_147 ?_
            refine hz_topl (fun x12_34 hx12_34 => ?_)
            have hw := hw x12_34 hx12_34
            refine lv_lstore (lv' := [(12, .long (hz_l x12_34)), (15, .long (hz_l rv_31)), (0, .ref y0), (1, .int (hz_i y1)), (2, .long (hz_l y2)), (4, .long (hz_l y4)), (6, .int (hz_i y6)), (7, .int (hz_i y7)), (8, .int (hz_i x8)), (9, .int (hz_i x9)), (10, .long (hz_l x10)), (14, .int (hz_i x14))]) hx hb dX5_goThroughDraw_148 hl (by decide) rfl (fun ls hl => ?_)
            refine lv_lload hx hb dX5_goThroughDraw_150 (lv_at hl 1 rfl) ?_
            refine lv_lstore (lv' := [(10, .long (hz_l rv_31)), (12, .long (hz_l x12_34)), (15, .long (hz_l rv_31)), (0, .ref y0), (1, .int (hz_i y1)), (2, .long (hz_l y2)), (4, .long (hz_l y4)), (6, .int (hz_i y6)), (7, .int (hz_i y7)), (8, .int (hz_i x8)), (9, .int (hz_i x9)), (14, .int (hz_i x14))]) hx hb dX5_goThroughDraw_152 hl (by decide) rfl (fun ls hl => ?_)
            exact L154 z_29 A x9 rv_31 x12_34 x14 hw H locs ls hP hD hS (lv_sub hl [3, 4, 5, 6, 7, 8, 9, 10, 0, 1, 11] rfl)
        · have hw := hw.2 c_27
          refine lv_iconst (v := hz_i 0) hx hb dX5_goThroughDraw_94 (by decide +kernel) ?_
          subst hQQ
          subst hAe
          exact W.zret (v := hz_i 0) hx hb hr (hz_tZ (by decide)) (fun t ht hW => ⟨⟨hz_i 0, (0, z_26, r, A), rfl, ⟨rfl, hw⟩, by rw [ht]; exact hP, va_K.moved hW.alike hK, hD⟩, hS.F ht⟩) hS.2.2 dX5_goThroughDraw_95
  have hP := hP0; have hD := hD0; have hS := hS0; have hl := hl0; have hw := hw0
  obtain ⟨H, hH⟩ : ∃ H : Heap, H = s.heap := ⟨_, rfl⟩
  obtain ⟨locs, hlocs⟩ : ∃ L : List Loc, L = [] := ⟨_, rfl⟩
  rw [← hH] at hP
  have hS : va_S Ad s.heap H locs := by rw [hH, hlocs]; exact hS
  refine mw_HL hH hlocs ?_
  refine lv_aload_n hx hb dX5_goThroughDraw_0 rfl (lv_at hl 0 rfl) ?_
  obtain ⟨hO_35, hw⟩ := hw
  refine cw_get (ci := 5) (v := .ref (r y0 2)) hx hb hts hin5 hown hK hP hO_35.1 hO_35.2 rfl 2 (by decide) (hts (.fieldLink RX5 21 "HiddenMoves$Reader" "words" "LHiddenMoves$Words;") (List.mem_cons_of_mem _ (List.mem_append_left _ (List.mem_append_left _ (List.mem_append_left _ (List.mem_append_left _ (List.mem_append_left _ (List.mem_of_getElem? (i := 0) rfl)))))))) (fun _ h9 => h9) rfl dX5_goThroughDraw_1 ?_
  obtain ⟨hO_36, hw⟩ := hw
  refine cw_get (ci := 10) (v := .int (hz_i (z (r y0 2) 3))) hx hb hts hin10 hown hK hP hO_36.1 hO_36.2 rfl 3 (by decide) (hts (.fieldLink RX5 74 "HiddenMoves$Words" "begin" "I") (List.mem_cons_of_mem _ (List.mem_append_left _ (List.mem_append_left _ (List.mem_append_left _ (List.mem_append_left _ (List.mem_append_left _ (List.mem_of_getElem? (i := 1) rfl)))))))) (fun _ h9 => h9) rfl dX5_goThroughDraw_4 ?_
  refine hz_topi (fun x8_37 hx8_37 => ?_)
  have hw := hw x8_37 hx8_37
  refine lv_istore (lv' := [(8, .int (hz_i x8_37)), (0, .ref y0), (1, .int (hz_i y1)), (2, .long (hz_l y2)), (4, .long (hz_l y4)), (6, .int (hz_i y6)), (7, .int (hz_i y7))]) hx hb dX5_goThroughDraw_7 hl (by decide) rfl (fun ls hl => ?_)
  refine lv_lload hx hb dX5_goThroughDraw_9 (lv_at hl 4 rfl) ?_
  refine lv_ldc2 hx hb hown (hts (.constantLong RX5 124 (1000000000)) (List.mem_cons_of_mem _ (List.mem_append_left _ (List.mem_append_left _ (List.mem_append_left _ (List.mem_append_left _ (List.mem_append_left _ (List.mem_of_getElem? (i := 2) rfl)))))))) dX5_goThroughDraw_11 ?_
  refine hz_asl (b := 1000000000) (by decide +kernel) ?_
  obtain ⟨h9a, hw⟩ := hw
  refine hz_lcmp_lt (tgt := 27) hx hb dX5_goThroughDraw_14 dX5_goThroughDraw_15 (by decide) h9a ⟨by decide, by decide⟩ (fun c_38 => ?_) (fun c_38 => ?_)
  · have hw := hw.1 c_38
    refine lv_aload_n hx hb dX5_goThroughDraw_27 rfl (lv_at hl 1 rfl) ?_
    refine cw_get (ci := 5) (v := .ref (r y0 3)) hx hb hts hin5 hown hK hP hO_35.1 hO_35.2 rfl 3 (by decide) (hts (.fieldLink RX5 28 "HiddenMoves$Reader" "game" "LHiddenMoves$Game;") (List.mem_cons_of_mem _ (List.mem_append_left _ (List.mem_append_left _ (List.mem_append_left _ (List.mem_append_left _ (List.mem_append_left _ (List.mem_of_getElem? (i := 3) rfl)))))))) (fun _ h9 => h9) rfl dX5_goThroughDraw_28 ?_
    obtain ⟨hO_39, hw⟩ := hw
    refine cw_get (ci := 2) (v := .ref (r (r y0 3) 0)) hx hb hts hin2 hown hK hP hO_39.1 hO_39.2 rfl 0 (by decide) (hts (.fieldLink RX5 111 "HiddenMoves$Game" "counts" "[I") (List.mem_cons_of_mem _ (List.mem_append_left _ (List.mem_append_left _ (List.mem_append_left _ (List.mem_append_left _ (List.mem_append_left _ (List.mem_of_getElem? (i := 4) rfl)))))))) (fun _ h9 => h9) rfl dX5_goThroughDraw_31 ?_
    refine lv_iconst (v := hz_i 2) hx hb dX5_goThroughDraw_34 (by decide +kernel) ?_
    refine lv_dup2_11 hx hb dX5_goThroughDraw_35 rfl rfl ?_
    obtain ⟨hO_40, hw⟩ := hw
    obtain ⟨h9i, hw⟩ := hw
    refine cw_ild hx hb hK hP hO_40.1 hO_40.2.2 h9i hO_40.2.1 dX5_goThroughDraw_36 ?_
    refine lv_iconst (v := hz_i 1) hx hb dX5_goThroughDraw_37 (by decide +kernel) ?_
    refine hz_iadd hx hb dX5_goThroughDraw_38 ?_
    obtain ⟨h9i, hw⟩ := hw
    refine cw_ist (v := (A (r (r y0 3) 0) ((2 : Int).toNat)) + 1) hx hb hK hP hD hS hO_40.1 hO_40.2.2 h9i hO_40.2.1 dX5_goThroughDraw_39 (fun H locs hP hD hS => ?_)
    obtain ⟨A_41, hA_41⟩ : ∃ y : Nat → Nat → Int, y = hz_s A (r (r y0 3) 0) 2 ((A (r (r y0 3) 0) ((2 : Int).toNat)) + 1) := ⟨_, rfl⟩
    rw [← hA_41] at hP hD
    have hw := hw A_41 hA_41
    refine lv_aload_n hx hb dX5_goThroughDraw_40 rfl (lv_at hl 1 rfl) ?_
    refine cw_get (ci := 5) (v := .ref (r y0 2)) hx hb hts hin5 hown hK hP hO_35.1 hO_35.2 rfl 2 (by decide) (hts (.fieldLink RX5 21 "HiddenMoves$Reader" "words" "LHiddenMoves$Words;") (List.mem_cons_of_mem _ (List.mem_append_left _ (List.mem_append_left _ (List.mem_append_left _ (List.mem_append_left _ (List.mem_append_left _ (List.mem_of_getElem? (i := 0) rfl)))))))) (fun _ h9 => h9) rfl dX5_goThroughDraw_41 ?_
    have hFc := cw_free hD hS hA
    obtain ⟨q9, hq9⟩ := cw_at (C := C) (z := z) (r := r) (A := A_41) hO_36.1 hO_36.2
    refine va_callv (va_runV (As := []) (rest := []) ⟨hx, hb, hml, hown, hts⟩ (k_c10_advance l D _ C L K z r A_41 (r y0 2) _ hw) (cwV 0 hts gX5_goThroughDraw_X10_advance rfl rfl rfl (by decide +kernel) ⟨show 1 + 1 ≤ F + 3 from by omega, show 8 + (1 + 11) + 20 ≤ Lc + 79 from by omega⟩) ⟨hm_blind, va_recv hK hP (ci := 10) (q0 := q9) rfl hq9, hm_pre hP hK hD hE⟩ rfl rfl hl.1 rfl (lv_room (Nat.le_of_ble_eq_true rfl)) dX5_goThroughDraw_44 ⟨Nat.le_of_ble_eq_true rfl, Nat.le_of_ble_eq_true rfl⟩) hS (fun q _ h => hFc q h) hFc (fun u t H1 locs ht hvm hw hB hz1 hk1 hS => ?_)
    obtain ⟨rv_42, z_43, _, _⟩ := u
    obtain ⟨hP, hK1, hD1⟩ := hB
    rw [ht] at hP
    have hD := hD1.weaken (fun k q _ h => hFc q.1 h)
    have hP : va_P D vwCl (cw_w C L K z_43 r A_41) H1 := hP
    have hD : va_D Ad (cw_w C L K z_43 r A_41) := hD
    generalize H1 = H at hP hS ⊢
    refine W.eq (g2 := F0 m 47 ls []) rfl ?_
    refine lv_iconst (v := hz_i 0) hx hb dX5_goThroughDraw_47 (by decide +kernel) ?_
    refine lv_istore (lv' := [(9, .int (hz_i 0)), (8, .int (hz_i x8_37)), (0, .ref y0), (1, .int (hz_i y1)), (2, .long (hz_l y2)), (4, .long (hz_l y4)), (6, .int (hz_i y6)), (7, .int (hz_i y7))]) hx hb dX5_goThroughDraw_48 hl (by decide) rfl (fun ls hl => ?_)
    refine lv_lconst (v := hz_l 1) hx hb dX5_goThroughDraw_50 (by decide +kernel) ?_
    refine lv_lstore (lv' := [(10, .long (hz_l 1)), (9, .int (hz_i 0)), (8, .int (hz_i x8_37)), (0, .ref y0), (1, .int (hz_i y1)), (2, .long (hz_l y2)), (4, .long (hz_l y4)), (6, .int (hz_i y6)), (7, .int (hz_i y7))]) hx hb dX5_goThroughDraw_51 hl (by decide) rfl (fun ls hl => ?_)
    refine lv_lconst (v := hz_l 0) hx hb dX5_goThroughDraw_53 (by decide +kernel) ?_
    refine lv_lstore (lv' := [(12, .long (hz_l 0)), (10, .long (hz_l 1)), (9, .int (hz_i 0)), (8, .int (hz_i x8_37)), (0, .ref y0), (1, .int (hz_i y1)), (2, .long (hz_l y2)), (4, .long (hz_l y4)), (6, .int (hz_i y6)), (7, .int (hz_i y7))]) hx hb dX5_goThroughDraw_54 hl (by decide) rfl (fun ls hl => ?_)
    refine lv_iconst (v := hz_i 0) hx hb dX5_goThroughDraw_56 (by decide +kernel) ?_
    refine lv_istore (lv' := [(14, .int (hz_i 0)), (12, .long (hz_l 0)), (10, .long (hz_l 1)), (9, .int (hz_i 0)), (8, .int (hz_i x8_37)), (0, .ref y0), (1, .int (hz_i y1)), (2, .long (hz_l y2)), (4, .long (hz_l y4)), (6, .int (hz_i y6)), (7, .int (hz_i y7))]) hx hb dX5_goThroughDraw_57 hl (by decide) rfl (fun ls hl => ?_)
    exact L59 z_43 A_41 x8_37 0 1 0 0 hw H locs ls hP hD hS (lv_sub hl [5, 6, 7, 8, 9, 10, 4, 3, 2, 1, 0] rfl)
  · have hw := hw.2 c_38
    refine lv_aload_n hx hb dX5_goThroughDraw_18 rfl (lv_at hl 1 rfl) ?_
    refine lv_bipush (v := hz_i 6) hx hb dX5_goThroughDraw_19 (by decide +kernel) ?_
    refine lv_iload hx hb dX5_goThroughDraw_21 (lv_at hl 0 rfl) ?_
    have hFc := cw_free hD hS hA
    obtain ⟨q9, hq9⟩ := cw_at (C := C) (z := z) (r := r) (A := A) hO_35.1 hO_35.2
    refine va_calli (va_runV (As := [.int (hz_i 6), .int (hz_i x8_37)]) (rest := []) ⟨hx, hb, hml, hown, hts⟩ (k_c5_refuse l D _ C L K z r A y0 6 x8_37 _ hw) (cwV 2 hts gX5_goThroughDraw_X5_refuse rfl rfl rfl (by decide +kernel) ⟨show 0 + 1 ≤ F + 3 from by omega, show 8 + (3 + 11) + 0 ≤ Lc + 79 from by omega⟩) ⟨hm_blind, va_recv hK hP (ci := 5) (q0 := q9) rfl hq9, hm_pre hP hK hD hE⟩ rfl rfl hl.1 rfl (lv_room (Nat.le_of_ble_eq_true rfl)) dX5_goThroughDraw_23 ⟨Nat.le_of_ble_eq_true rfl, Nat.le_of_ble_eq_true rfl⟩) hS (fun q _ h => hFc q h) hFc (fun rv u t H1 locs ht hvm hw hB hz1 hk1 hS => ?_)
    obtain ⟨rv_44, z_45, _, _⟩ := u
    obtain ⟨hP, hK1, hD1⟩ := hB
    rw [ht] at hP
    obtain ⟨hrv, hw⟩ := hw
    subst hrv
    have hD := hD1.weaken (fun k q _ h => hFc q.1 h)
    have hP : va_P D vwCl (cw_w C L K z_45 r A) H1 := hP
    have hD : va_D Ad (cw_w C L K z_45 r A) := hD
    generalize H1 = H at hP hS ⊢
    refine W.eq (g2 := F0 m 26 ls [.int (hz_i rv_44)]) rfl ?_
    obtain ⟨h9z, hw⟩ := hw
    subst hQQ
    subst hAe
    exact W.zret (v := hz_i rv_44) hx hb hr (hz_tZ h9z) (fun t ht hW => ⟨⟨hz_i rv_44, (rv_44, z_45, r, A), rfl, ⟨rfl, hw⟩, by rw [ht]; exact hP, va_K.moved hW.alike hK, hD⟩, hS.F ht⟩) hS.2.2 dX5_goThroughDraw_26

noncomputable def wp_c5_goThroughChoice_198 (L : List Nat) (K : Nat → cw_K) (N : ((Nat → Nat → Int) → (Nat → Nat → Int) → Nat → Int → Int → Int → Int → Int → (Int → (Nat → Nat → Int) → (Nat → Nat → Int) → Prop) → Prop)) (z : Nat → Nat → Int) (r : Nat → Nat → Nat) (A : Nat → Nat → Int) (y0 : Nat) (x8 : Int) (x10 : Nat) (x11 : Int) (x12 : Int) (Q : Int → (Nat → Nat → Int) → (Nat → Nat → Int) → Prop) : Prop := cw_O L K 5 y0 ∧ cw_O L K 10 (r y0 2) ∧ wp_c10_advance L K z r A (r y0 2) (fun z_3 => wp_c5_endChoice L K z_3 r A y0 x8 x10 x11 x12 (fun rv_5 z_6 A_7 => (rv_5 = 0 ∨ rv_5 = 1) ∧ Q rv_5 z_6 A_7))
noncomputable def wp_c5_goThroughChoice_168 (L : List Nat) (K : Nat → cw_K) (N : ((Nat → Nat → Int) → (Nat → Nat → Int) → Nat → Int → Int → Int → Int → Int → (Int → (Nat → Nat → Int) → (Nat → Nat → Int) → Prop) → Prop)) (z : Nat → Nat → Int) (r : Nat → Nat → Nat) (A : Nat → Nat → Int) (y0 : Nat) (y1 : Int) (y2 : Int) (y4 : Int) (y6 : Int) (y7 : Int) (x8 : Int) (x9 : Int) (x10 : Nat) (x11 : Int) (x12 : Int) (x13 : Int) (x15 : Int) (t0 : Int) (P105 : (Nat → Nat → Int) → (Nat → Nat → Int) → Int → Int → Prop) (Q : Int → (Nat → Nat → Int) → (Nat → Nat → Int) → Prop) : Prop := cw_O L K 5 y0 ∧ N z A y0 (y1 + 1) y2 y4 x15 t0 (fun rv_8 z_9 A_10 => hz_rI rv_8 ∧ ((¬ rv_8 = 0 → ∀ x12_13 : Int, x12_13 = x12 + 1 → ∀ x13_14 : Int, x13_14 = x13 + 1 → P105 z_9 A_10 x12_13 x13_14) ∧ (rv_8 = 0 → Q 0 z_9 A_10)))
noncomputable def wp_c5_goThroughChoice_153 (L : List Nat) (K : Nat → cw_K) (N : ((Nat → Nat → Int) → (Nat → Nat → Int) → Nat → Int → Int → Int → Int → Int → (Int → (Nat → Nat → Int) → (Nat → Nat → Int) → Prop) → Prop)) (z : Nat → Nat → Int) (r : Nat → Nat → Nat) (A : Nat → Nat → Int) (y0 : Nat) (y1 : Int) (y2 : Int) (y4 : Int) (y6 : Int) (y7 : Int) (x8 : Int) (x9 : Int) (x10 : Nat) (x11 : Int) (x12 : Int) (x13 : Int) (x14 : Int) (t0 : Int) (P105 : (Nat → Nat → Int) → (Nat → Nat → Int) → Int → Int → Prop) (Q : Int → (Nat → Nat → Int) → (Nat → Nat → Int) → Prop) : Prop := hz_rI x9 ∧ ((¬ x9 = 1 → wp_c5_goThroughChoice_168 L K N z r A y0 y1 y2 y4 y6 y7 x8 x9 x10 x11 x12 x13 t0 y7 P105 Q) ∧ (x9 = 1 → wp_c5_goThroughChoice_168 L K N z r A y0 y1 y2 y4 y6 y7 x8 x9 x10 x11 x12 x13 t0 x14 P105 Q))
noncomputable def wp_c5_goThroughChoice_105 (L : List Nat) (K : Nat → cw_K) (N : ((Nat → Nat → Int) → (Nat → Nat → Int) → Nat → Int → Int → Int → Int → Int → (Int → (Nat → Nat → Int) → (Nat → Nat → Int) → Prop) → Prop)) (z : Nat → Nat → Int) (r : Nat → Nat → Nat) (A : Nat → Nat → Int) (y0 : Nat) (y1 : Int) (y2 : Int) (y4 : Int) (y6 : Int) (y7 : Int) (x8 : Int) (x9 : Int) (x10 : Nat) (x11 : Int) (x12 : Int) (x13 : Int) (Q : Int → (Nat → Nat → Int) → (Nat → Nat → Int) → Prop) : Prop := ∀ P105 : (Nat → Nat → Int) → (Nat → Nat → Int) → Int → Int → Prop, (∀ (z : Nat → Nat → Int) (A : Nat → Nat → Int) (x12 : Int) (x13 : Int), hz_rI x13 ∧ ((400 ≤ x13 → wp_c5_goThroughChoice_198 L K N z r A y0 x8 x10 x11 x12  Q) ∧ (¬ (400 ≤ x13) → cw_O L K 5 y0 ∧ cw_O L K 10 (r y0 2) ∧ hz_rI (z (r y0 2) 2) ∧ ((z (r y0 2) 2 = 41 → wp_c5_goThroughChoice_198 L K N z r A y0 x8 x10 x11 x12  Q) ∧ (¬ (z (r y0 2) 2 = 41) → wp_c10_advance L K z r A (r y0 2) (fun z_21 => wp_c7_deed L K z_21 r A x11 x12 (fun rv_22 => hz_rI x9 ∧ ((¬ x9 = 0 → wp_c5_goThroughChoice_153 L K N z_21 r A y0 y1 y2 y4 y6 y7 x8 x9 x10 x11 x12 x13 rv_22 y6 P105 Q) ∧ (x9 = 0 → wp_c5_goThroughChoice_153 L K N z_21 r A y0 y1 y2 y4 y6 y7 x8 x9 x10 x11 x12 x13 rv_22 rv_22 P105 Q)))))))) → P105 z A x12 x13) → P105 z A x12 x13
noncomputable def wp_c5_goThroughChoice_66 (L : List Nat) (K : Nat → cw_K) (N : ((Nat → Nat → Int) → (Nat → Nat → Int) → Nat → Int → Int → Int → Int → Int → (Int → (Nat → Nat → Int) → (Nat → Nat → Int) → Prop) → Prop)) (z : Nat → Nat → Int) (r : Nat → Nat → Nat) (A : Nat → Nat → Int) (y0 : Nat) (y1 : Int) (y2 : Int) (y4 : Int) (y6 : Int) (y7 : Int) (x8 : Int) (x9 : Int) (x10 : Nat) (t0 : Int) (t1 : Int) (t2 : Int) (t3 : Nat) (t4 : Nat) (Q : Int → (Nat → Nat → Int) → (Nat → Nat → Int) → Prop) : Prop := cw_O L K 5 t4 ∧ wp_c5_enterSet L K z r A t4 t3 t2 t1 t0 (fun rv_24 z_25 A_26 => hz_rI rv_24 ∧ ((¬ rv_24 = (-1) → cw_O L K 5 y0 ∧ cw_O L K 2 (r y0 3) ∧ cw_A L K 0 (r (r y0 3) 0) ∧ ((0 : Int) ≤ 3 ∧ 3 < (cw_n K (r (r y0 3) 0) : Int)) ∧ ((0 : Int) ≤ 3 ∧ 3 < (cw_n K (r (r y0 3) 0) : Int)) ∧ ∀ A_32 : Nat → Nat → Int, A_32 = hz_s A_26 (r (r y0 3) 0) 3 ((A_26 (r (r y0 3) 0) ((3 : Int).toNat)) + 1) → cw_O L K 10 (r y0 2) ∧ wp_c10_advance L K z_25 r A_32 (r y0 2) (fun z_34 => wp_c5_goThroughChoice_105 L K N z_34 r A_32 y0 y1 y2 y4 y6 y7 x8 x9 x10 rv_24 0 0  Q)) ∧ (rv_24 = (-1) → Q 0 z_25 A_26)))
noncomputable def wp_c5_goThroughChoice_26 (L : List Nat) (K : Nat → cw_K) (N : ((Nat → Nat → Int) → (Nat → Nat → Int) → Nat → Int → Int → Int → Int → Int → (Int → (Nat → Nat → Int) → (Nat → Nat → Int) → Prop) → Prop)) (z : Nat → Nat → Int) (r : Nat → Nat → Nat) (A : Nat → Nat → Int) (y0 : Nat) (y1 : Int) (y2 : Int) (y4 : Int) (y6 : Int) (y7 : Int) (x8 : Int) (t0 : Int) (Q : Int → (Nat → Nat → Int) → (Nat → Nat → Int) → Prop) : Prop := cw_O L K 5 y0 ∧ cw_O L K 2 (r y0 3) ∧ cw_G L K 7 (r (r y0 3) 1) ∧ ((0 : Int) ≤ t0 ∧ t0 < (cw_n K (r (r y0 3) 1) : Int)) ∧ cw_O L K 10 (r y0 2) ∧ wp_c10_advance L K z r A (r y0 2) (fun z_40 => hz_rI t0 ∧ ((¬ t0 = 0 → wp_c5_goThroughChoice_66 L K N z_40 r A y0 y1 y2 y4 y6 y7 x8 t0 (cw_g K (r (r y0 3) 1) (t0.toNat)) y7 y4 x8 (cw_g K (r (r y0 3) 1) (t0.toNat)) y0  Q) ∧ (t0 = 0 → wp_c5_goThroughChoice_66 L K N z_40 r A y0 y1 y2 y4 y6 y7 x8 t0 (cw_g K (r (r y0 3) 1) (t0.toNat)) y6 y4 x8 (cw_g K (r (r y0 3) 1) (t0.toNat)) y0  Q)))
noncomputable def wp_c5_goThroughChoice (L : List Nat) (K : Nat → cw_K) (N : ((Nat → Nat → Int) → (Nat → Nat → Int) → Nat → Int → Int → Int → Int → Int → (Int → (Nat → Nat → Int) → (Nat → Nat → Int) → Prop) → Prop)) (z : Nat → Nat → Int) (r : Nat → Nat → Nat) (A : Nat → Nat → Int) (y0 : Nat) (y1 : Int) (y2 : Int) (y4 : Int) (y6 : Int) (y7 : Int) (Q : Int → (Nat → Nat → Int) → (Nat → Nat → Int) → Prop) : Prop := cw_O L K 5 y0 ∧ cw_O L K 10 (r y0 2) ∧ ∀ x8_45 : Int, x8_45 = z (r y0 2) 3 → hz_rI (z (r y0 2) 2) ∧ ((¬ z (r y0 2) 2 = 65 → wp_c5_goThroughChoice_26 L K N z r A y0 y1 y2 y4 y6 y7 x8_45 1  Q) ∧ (z (r y0 2) 2 = 65 → wp_c5_goThroughChoice_26 L K N z r A y0 y1 y2 y4 y6 y7 x8_45 0  Q))
set_option maxHeartbeats 4000000 in
set_option maxRecDepth 100000 in
theorem k_c5_goThroughChoice (l : Launch) (D : va_G) (sz : Nat) (C : Nat → ClassId) (L : List Nat) (K : Nat → cw_K) (z : Nat → Nat → Int) (r : Nat → Nat → Nat) (A : Nat → Nat → Int) (y0 : Nat) (y1 : Int) (y2 : Int) (y4 : Int) (y6 : Int) (y7 : Int) (Q : Int → (Nat → Nat → Int) → (Nat → Nat → Int) → Prop) {F Lc : Nat} (N : ((Nat → Nat → Int) → (Nat → Nat → Int) → Nat → Int → Int → Int → Int → Int → (Int → (Nat → Nat → Int) → (Nat → Nat → Int) → Prop) → Prop)) (hN : ∀ (z A : Nat → Nat → Int) (y0 : Nat) (y1 y2 y4 y6 y7 : Int) (Q : Int → (Nat → Nat → Int) → (Nat → Nat → Int) → Prop), N z A y0 y1 y2 y4 y6 y7 Q → ∀ sz : Nat, Met l yX5_goThroughNode wsX5_goThroughNode ({ frames := F, cells := 0, slots := 0, locals := Lc } : Room) (va_Pc [.ref y0, .int (hz_i y1), .long (hz_l y2), .long (hz_l y4), .int (hz_i y6), .int (hz_i y7)] (hm_P D (cw_w C L K z r A) (cw_t C) sz)) (va_Qi (S := Int × (Nat → Nat → Int) × (Nat → Nat → Nat) × (Nat → Nat → Int)) (fun r u => r = hz_i u.1 ∧ Q u.1 u.2.1 u.2.2.2) (fun u t => hm_B D (va_A (cw_w C L K z r A) sz) (cw_w C L K u.2.1 r u.2.2.2) (cw_t C) t) (va_A (cw_w C L K z r A) sz)) 0 0 (va_A (cw_w C L K z r A) sz)) (hw : wp_c5_goThroughChoice L K N z r A y0 y1 y2 y4 y6 y7 Q) : Met l yX5_goThroughChoice wsX5_goThroughChoice ({ frames := F + 3, cells := 0, slots := 0, locals := Lc + 69 } : Room) (va_Pc [.ref y0, .int (hz_i y1), .long (hz_l y2), .long (hz_l y4), .int (hz_i y6), .int (hz_i y7)] (hm_P D (cw_w C L K z r A) (cw_t C) sz)) (va_Qi (S := Int × (Nat → Nat → Int) × (Nat → Nat → Nat) × (Nat → Nat → Int)) (fun r u => r = hz_i u.1 ∧ Q u.1 u.2.1 u.2.2.2) (fun u t => hm_B D (va_A (cw_w C L K z r A) sz) (cw_w C L K u.2.1 r u.2.2.2) (cw_t C) t) (va_A (cw_w C L K z r A) sz)) 0 0 (va_A (cw_w C L K z r A) sz) := by
  refine Met.ofW (cc := cX5_goThroughChoice) (maxL := 17) (ret := (some .boolean)) (by decide) rfl ?_
  intro p e s m args below meth c s₁ B hml hv
  obtain ⟨rfl, hsz, hP, hK, hD0, hE⟩ := hv
  have hx := B.exec
  have hb := B.bytes
  have hr := B.returns
  have hts := atoms_spec (ws := wsX5_goThroughChoice) B.pre
  have hown : s.vm.findClass RX5 = some m.cls := findClass_of_methodNamed B.named
  have hlocks := B.notSynchronized
  have hin2 : ∀ w ∈ u_ws RX2 TX2 4, w ∈ wsX5_goThroughChoice := fun w h => List.mem_cons_of_mem _ (List.mem_append_left _ (List.mem_append_right _ (h)))
  have hin5 : ∀ w ∈ u_ws RX5 TX5 13, w ∈ wsX5_goThroughChoice := fun w h => List.mem_cons_of_mem _ (List.mem_append_left _ (List.mem_append_left _ (List.mem_append_left _ (List.mem_append_right _ (h)))))
  have hin10 : ∀ w ∈ u_ws RX10 TX10 6, w ∈ wsX5_goThroughChoice := fun w h => List.mem_cons_of_mem _ (List.mem_append_left _ (List.mem_append_left _ (List.mem_append_right _ (h))))
  subst hsz
  have hD := hD0.self (sz := s.heap.size)
  generalize hAe : va_A (cw_w C L K z r A) s.heap.size = Ad at hD ⊢
  have hA : ∀ q : Nat, s.heap.size ≤ q → Ad q := fun q h => by rw [← hAe]; exact Or.inr h
  have hS : va_S Ad s.heap s.heap [] := va_S.rf
  have hl := lv_entry ([.ref y0, .int (hz_i y1), .long (hz_l y2), .long (hz_l y4), .int (hz_i y6), .int (hz_i y7)]) (n := 17) (Nat.le_of_ble_eq_true rfl)
  rw [lg_entry_eq]
  generalize (lg_sl ([.ref y0, .int (hz_i y1), .long (hz_l y2), .long (hz_l y4), .int (hz_i y6), .int (hz_i y7)]) ++ List.replicate (17 - (lg_sl ([.ref y0, .int (hz_i y1), .long (hz_l y2), .long (hz_l y4), .int (hz_i y6), .int (hz_i y7)])).length) Slot.unset).toArray = ls at hl ⊢
  have hl : lv_has ls 17 [(0, .ref y0), (1, .int (hz_i y1)), (2, .long (hz_l y2)), (4, .long (hz_l y4)), (6, .int (hz_i y6)), (7, .int (hz_i y7))] := hl
  refine mw_Q (fun QQ hQQ => ?_)
  have hP0 := hP; have hD0 := hD; have hS0 := hS; have hl0 := hl; have hw0 := hw
  clear hP hD hS hl hw
  have L198 : ∀ (z : Nat → Nat → Int) (A : Nat → Nat → Int) (x8 : Int) (x10 : Nat) (x11 : Int) (x12 : Int), wp_c5_goThroughChoice_198 L K N z r A y0 x8 x10 x11 x12  Q → ∀ (H : Heap) (locs : List Loc) (ls : Array Slot), va_P D vwCl (cw_w C L K z r A) H → va_D Ad (cw_w C L K z r A) → va_S Ad s.heap H locs → lv_has ls 17 [(0, .ref y0), (8, .int (hz_i x8)), (10, .ref x10), (11, .int (hz_i x11)), (12, .int (hz_i x12))] → W p l e (headSpec wsX5_goThroughChoice ({ frames := F + 3, cells := 0, slots := 0, locals := Lc + 69 } : Room)).room s m (List.toArray [.ref y0, .int (hz_i y1), .long (hz_l y2), .long (hz_l y4), .int (hz_i y6), .int (hz_i y7)]) below meth c H locs 0 0 QQ (F0 m 198 ls []) := by
    intro z A x8 x10 x11 x12 hw H locs ls hP hD hS hl
    refine lv_aload_n hx hb dX5_goThroughChoice_198 rfl (lv_at hl 0 rfl) ?_
    obtain ⟨hO_1, hw⟩ := hw
    refine cw_get (ci := 5) (v := .ref (r y0 2)) hx hb hts hin5 hown hK hP hO_1.1 hO_1.2 rfl 2 (by decide) (hts (.fieldLink RX5 21 "HiddenMoves$Reader" "words" "LHiddenMoves$Words;") (List.mem_cons_of_mem _ (List.mem_append_left _ (List.mem_append_left _ (List.mem_append_left _ (List.mem_append_left _ (List.mem_append_left _ (List.mem_of_getElem? (i := 0) rfl)))))))) (fun _ h9 => h9) rfl dX5_goThroughChoice_199 ?_
    obtain ⟨hO_4, hw⟩ := hw
    have hFc := cw_free hD hS hA
    obtain ⟨q9, hq9⟩ := cw_at (C := C) (z := z) (r := r) (A := A) hO_4.1 hO_4.2
    refine va_callv (va_runV (As := []) (rest := []) ⟨hx, hb, hml, hown, hts⟩ (k_c10_advance l D _ C L K z r A (r y0 2) _ hw) (cwV 0 hts gX5_goThroughChoice_X10_advance rfl rfl rfl (by decide +kernel) ⟨show 1 + 1 ≤ F + 3 from by omega, show 8 + (1 + 11) + 20 ≤ Lc + 69 from by omega⟩) ⟨hm_blind, va_recv hK hP (ci := 10) (q0 := q9) rfl hq9, hm_pre hP hK hD hE⟩ rfl rfl hl.1 rfl (lv_room (Nat.le_of_ble_eq_true rfl)) dX5_goThroughChoice_202 ⟨Nat.le_of_ble_eq_true rfl, Nat.le_of_ble_eq_true rfl⟩) hS (fun q _ h => hFc q h) hFc (fun u t H1 locs ht hvm hw hB hz1 hk1 hS => ?_)
    obtain ⟨rv_2, z_3, _, _⟩ := u
    obtain ⟨hP, hK1, hD1⟩ := hB
    rw [ht] at hP
    have hD := hD1.weaken (fun k q _ h => hFc q.1 h)
    have hP : va_P D vwCl (cw_w C L K z_3 r A) H1 := hP
    have hD : va_D Ad (cw_w C L K z_3 r A) := hD
    generalize H1 = H at hP hS ⊢
    refine W.eq (g2 := F0 m 205 ls []) rfl ?_
    refine lv_aload_n hx hb dX5_goThroughChoice_205 rfl (lv_at hl 0 rfl) ?_
    refine lv_iload hx hb dX5_goThroughChoice_206 (lv_at hl 1 rfl) ?_
    refine lv_aload hx hb dX5_goThroughChoice_208 (lv_at hl 2 rfl) ?_
    refine lv_iload hx hb dX5_goThroughChoice_210 (lv_at hl 3 rfl) ?_
    refine lv_iload hx hb dX5_goThroughChoice_212 (lv_at hl 4 rfl) ?_
    have hFc := cw_free hD hS hA
    obtain ⟨q9, hq9⟩ := cw_at (C := C) (z := z_3) (r := r) (A := A) hO_1.1 hO_1.2
    refine va_calli (va_runV (As := [.int (hz_i x8), .ref x10, .int (hz_i x11), .int (hz_i x12)]) (rest := []) ⟨hx, hb, hml, hown, hts⟩ (k_c5_endChoice l D _ C L K z_3 r A y0 x8 x10 x11 x12 _ hw) (cwV 4 hts gX5_goThroughChoice_X5_endChoice rfl rfl rfl (by decide +kernel) ⟨show 1 + 1 ≤ F + 3 from by omega, show 8 + (5 + 11) + 22 ≤ Lc + 69 from by omega⟩) ⟨hm_blind, va_recv hK hP (ci := 5) (q0 := q9) rfl hq9, hm_pre hP hK hD hE⟩ rfl rfl hl.1 rfl (lv_room (Nat.le_of_ble_eq_true rfl)) dX5_goThroughChoice_214 ⟨Nat.le_of_ble_eq_true rfl, Nat.le_of_ble_eq_true rfl⟩) hS (fun q _ h => hFc q h) hFc (fun rv u t H1 locs ht hvm hw hB hz1 hk1 hS => ?_)
    obtain ⟨rv_5, z_6, _, A_7⟩ := u
    obtain ⟨hP, hK1, hD1⟩ := hB
    rw [ht] at hP
    obtain ⟨hrv, hw⟩ := hw
    subst hrv
    have hD := hD1.weaken (fun k q _ h => hFc q.1 h)
    have hP : va_P D vwCl (cw_w C L K z_6 r A_7) H1 := hP
    have hD : va_D Ad (cw_w C L K z_6 r A_7) := hD
    generalize H1 = H at hP hS ⊢
    refine W.eq (g2 := F0 m 217 ls [.int (hz_i rv_5)]) rfl ?_
    obtain ⟨h9z, hw⟩ := hw
    subst hQQ
    subst hAe
    exact W.zret (v := hz_i rv_5) hx hb hr (hz_tZ h9z) (fun t ht hW => ⟨⟨hz_i rv_5, (rv_5, z_6, r, A_7), rfl, ⟨rfl, hw⟩, by rw [ht]; exact hP, va_K.moved hW.alike hK, hD⟩, hS.F ht⟩) hS.2.2 dX5_goThroughChoice_217
  have L105 : ∀ (z : Nat → Nat → Int) (A : Nat → Nat → Int) (x8 : Int) (x9 : Int) (x10 : Nat) (x11 : Int) (x12 : Int) (x13 : Int), wp_c5_goThroughChoice_105 L K N z r A y0 y1 y2 y4 y6 y7 x8 x9 x10 x11 x12 x13  Q → ∀ (H : Heap) (locs : List Loc) (ls : Array Slot), va_P D vwCl (cw_w C L K z r A) H → va_D Ad (cw_w C L K z r A) → va_S Ad s.heap H locs → lv_has ls 17 [(0, .ref y0), (1, .int (hz_i y1)), (2, .long (hz_l y2)), (4, .long (hz_l y4)), (6, .int (hz_i y6)), (7, .int (hz_i y7)), (8, .int (hz_i x8)), (9, .int (hz_i x9)), (10, .ref x10), (11, .int (hz_i x11)), (12, .int (hz_i x12)), (13, .int (hz_i x13))] → W p l e (headSpec wsX5_goThroughChoice ({ frames := F + 3, cells := 0, slots := 0, locals := Lc + 69 } : Room)).room s m (List.toArray [.ref y0, .int (hz_i y1), .long (hz_l y2), .long (hz_l y4), .int (hz_i y6), .int (hz_i y7)]) below meth c H locs 0 0 QQ (F0 m 105 ls []) := by
    intro z A x8 x9 x10 x11 x12 x13 hw
    obtain ⟨P105, hP105⟩ : ∃ P : (Nat → Nat → Int) → (Nat → Nat → Int) → Int → Int → Prop, ∀ (z : Nat → Nat → Int) (A : Nat → Nat → Int) (x12 : Int) (x13 : Int), P z A x12 x13 ↔ (∀ (H : Heap) (locs : List Loc) (ls : Array Slot), va_P D vwCl (cw_w C L K z r A) H → va_D Ad (cw_w C L K z r A) → va_S Ad s.heap H locs → lv_has ls 17 [(0, .ref y0), (1, .int (hz_i y1)), (2, .long (hz_l y2)), (4, .long (hz_l y4)), (6, .int (hz_i y6)), (7, .int (hz_i y7)), (8, .int (hz_i x8)), (9, .int (hz_i x9)), (10, .ref x10), (11, .int (hz_i x11)), (12, .int (hz_i x12)), (13, .int (hz_i x13))] → W p l e (headSpec wsX5_goThroughChoice ({ frames := F + 3, cells := 0, slots := 0, locals := Lc + 69 } : Room)).room s m (List.toArray [.ref y0, .int (hz_i y1), .long (hz_l y2), .long (hz_l y4), .int (hz_i y6), .int (hz_i y7)]) below meth c H locs 0 0 QQ (F0 m 105 ls [])) := ⟨fun (z : Nat → Nat → Int) (A : Nat → Nat → Int) (x12 : Int) (x13 : Int) => ∀ (H : Heap) (locs : List Loc) (ls : Array Slot), va_P D vwCl (cw_w C L K z r A) H → va_D Ad (cw_w C L K z r A) → va_S Ad s.heap H locs → lv_has ls 17 [(0, .ref y0), (1, .int (hz_i y1)), (2, .long (hz_l y2)), (4, .long (hz_l y4)), (6, .int (hz_i y6)), (7, .int (hz_i y7)), (8, .int (hz_i x8)), (9, .int (hz_i x9)), (10, .ref x10), (11, .int (hz_i x11)), (12, .int (hz_i x12)), (13, .int (hz_i x13))] → W p l e (headSpec wsX5_goThroughChoice ({ frames := F + 3, cells := 0, slots := 0, locals := Lc + 69 } : Room)).room s m (List.toArray [.ref y0, .int (hz_i y1), .long (hz_l y2), .long (hz_l y4), .int (hz_i y6), .int (hz_i y7)]) below meth c H locs 0 0 QQ (F0 m 105 ls []), fun _ _ _ _ => Iff.rfl⟩
    refine (hP105 z A x12 x13).mp (hw P105 ?_)
    intro z A x12 x13 hw
    refine (hP105 z A x12 x13).mpr ?_
    intro H locs ls hP hD hS hl
    have L168 : ∀ (z : Nat → Nat → Int) (A : Nat → Nat → Int) (x12 : Int) (x13 : Int) (x15 : Int) (t0 : Int), wp_c5_goThroughChoice_168 L K N z r A y0 y1 y2 y4 y6 y7 x8 x9 x10 x11 x12 x13 x15 t0 P105 Q → ∀ (H : Heap) (locs : List Loc) (ls : Array Slot), va_P D vwCl (cw_w C L K z r A) H → va_D Ad (cw_w C L K z r A) → va_S Ad s.heap H locs → lv_has ls 17 [(0, .ref y0), (1, .int (hz_i y1)), (2, .long (hz_l y2)), (4, .long (hz_l y4)), (6, .int (hz_i y6)), (7, .int (hz_i y7)), (8, .int (hz_i x8)), (9, .int (hz_i x9)), (10, .ref x10), (11, .int (hz_i x11)), (12, .int (hz_i x12)), (13, .int (hz_i x13)), (15, .int (hz_i x15))] → W p l e (headSpec wsX5_goThroughChoice ({ frames := F + 3, cells := 0, slots := 0, locals := Lc + 69 } : Room)).room s m (List.toArray [.ref y0, .int (hz_i y1), .long (hz_l y2), .long (hz_l y4), .int (hz_i y6), .int (hz_i y7)]) below meth c H locs 0 0 QQ (F0 m 168 ls [.int (hz_i t0)]) := by
      intro z A x12 x13 x15 t0 hw H locs ls hP hD hS hl
      refine lv_istore (lv' := [(16, .int (hz_i t0)), (0, .ref y0), (1, .int (hz_i y1)), (2, .long (hz_l y2)), (4, .long (hz_l y4)), (6, .int (hz_i y6)), (7, .int (hz_i y7)), (8, .int (hz_i x8)), (9, .int (hz_i x9)), (10, .ref x10), (11, .int (hz_i x11)), (12, .int (hz_i x12)), (13, .int (hz_i x13)), (15, .int (hz_i x15))]) hx hb dX5_goThroughChoice_168 hl (by decide) rfl (fun ls hl => ?_)
      refine lv_aload_n hx hb dX5_goThroughChoice_170 rfl (lv_at hl 1 rfl) ?_
      refine lv_iload_n hx hb dX5_goThroughChoice_171 rfl (lv_at hl 2 rfl) ?_
      refine lv_iconst (v := hz_i 1) hx hb dX5_goThroughChoice_172 (by decide +kernel) ?_
      refine hz_iadd hx hb dX5_goThroughChoice_173 ?_
      refine lv_lload_n hx hb dX5_goThroughChoice_174 rfl (lv_at hl 3 rfl) ?_
      refine lv_lload hx hb dX5_goThroughChoice_175 (lv_at hl 4 rfl) ?_
      refine lv_iload hx hb dX5_goThroughChoice_177 (lv_at hl 13 rfl) ?_
      refine lv_iload hx hb dX5_goThroughChoice_179 (lv_at hl 0 rfl) ?_
      obtain ⟨hO_11, hw⟩ := hw
      have hFc := cw_free hD hS hA
      obtain ⟨q9, hq9⟩ := cw_at (C := C) (z := z) (r := r) (A := A) hO_11.1 hO_11.2
      refine va_calli (va_runV (As := [.int (hz_i (y1 + 1)), .long (hz_l y2), .long (hz_l y4), .int (hz_i x15), .int (hz_i t0)]) (rest := []) ⟨hx, hb, hml, hown, hts⟩ (hN z A y0 (y1 + 1) y2 y4 x15 t0 _ hw _) (cwV 5 hts gX5_goThroughChoice_X5_goThroughNode rfl rfl rfl (by decide +kernel) ⟨show F + 1 ≤ F + 3 from by omega, show 8 + (8 + 11) + Lc ≤ Lc + 69 from by omega⟩) ⟨hm_blind, va_recv hK hP (ci := 5) (q0 := q9) rfl hq9, hm_pre hP hK hD hE⟩ rfl rfl hl.1 rfl (lv_room (Nat.le_of_ble_eq_true rfl)) dX5_goThroughChoice_181 ⟨Nat.le_of_ble_eq_true rfl, Nat.le_of_ble_eq_true rfl⟩) hS (fun q _ h => hFc q h) hFc (fun rv u t H1 locs ht hvm hw hB hz1 hk1 hS => ?_)
      obtain ⟨rv_8, z_9, _, A_10⟩ := u
      obtain ⟨hP, hK1, hD1⟩ := hB
      rw [ht] at hP
      obtain ⟨hrv, hw⟩ := hw
      subst hrv
      have hD := hD1.weaken (fun k q _ h => hFc q.1 h)
      have hP : va_P D vwCl (cw_w C L K z_9 r A_10) H1 := hP
      have hD : va_D Ad (cw_w C L K z_9 r A_10) := hD
      generalize H1 = H at hP hS ⊢
      refine W.eq (g2 := F0 m 184 ls [.int (hz_i rv_8)]) rfl ?_
      obtain ⟨h9a, hw⟩ := hw
      refine hz_if_ne (tgt := 189) hx hb dX5_goThroughChoice_184 (by decide) h9a (fun c_12 => ?_) (fun c_12 => ?_)
      · have hw := hw.1 c_12
        obtain ⟨x12_13, hx12_13⟩ : ∃ y : Int, y = x12 + 1 := ⟨_, rfl⟩
        have hw := hw x12_13 hx12_13
        refine lv_iinc (v := hz_i x12_13) (lv' := [(12, .int (hz_i x12_13)), (16, .int (hz_i t0)), (0, .ref y0), (1, .int (hz_i y1)), (2, .long (hz_l y2)), (4, .long (hz_l y4)), (6, .int (hz_i y6)), (7, .int (hz_i y7)), (8, .int (hz_i x8)), (9, .int (hz_i x9)), (10, .ref x10), (11, .int (hz_i x11)), (13, .int (hz_i x13)), (15, .int (hz_i x15))]) hx hb dX5_goThroughChoice_189 hl (k := 11) rfl (by rw [hx12_13]; exact hz_i_add _ _) (by decide) rfl (fun ls hl => ?_)
        obtain ⟨x13_14, hx13_14⟩ : ∃ y : Int, y = x13 + 1 := ⟨_, rfl⟩
        have hw := hw x13_14 hx13_14
        refine lv_iinc (v := hz_i x13_14) (lv' := [(13, .int (hz_i x13_14)), (12, .int (hz_i x12_13)), (16, .int (hz_i t0)), (0, .ref y0), (1, .int (hz_i y1)), (2, .long (hz_l y2)), (4, .long (hz_l y4)), (6, .int (hz_i y6)), (7, .int (hz_i y7)), (8, .int (hz_i x8)), (9, .int (hz_i x9)), (10, .ref x10), (11, .int (hz_i x11)), (15, .int (hz_i x15))]) hx hb dX5_goThroughChoice_192 hl (k := 12) rfl (by rw [hx13_14]; exact hz_i_add _ _) (by decide) rfl (fun ls hl => ?_)
        refine lv_goto (tgt := 105) hx hb dX5_goThroughChoice_195 (by decide) ?_
        exact (hP105 z_9 A_10 x12_13 x13_14).mp hw H locs ls hP hD hS (lv_sub hl [3, 4, 5, 6, 7, 8, 9, 10, 11, 12, 1, 0] rfl)
      · have hw := hw.2 c_12
        refine lv_iconst (v := hz_i 0) hx hb dX5_goThroughChoice_187 (by decide +kernel) ?_
        subst hQQ
        subst hAe
        exact W.zret (v := hz_i 0) hx hb hr (hz_tZ (by decide)) (fun t ht hW => ⟨⟨hz_i 0, (0, z_9, r, A_10), rfl, ⟨rfl, hw⟩, by rw [ht]; exact hP, va_K.moved hW.alike hK, hD⟩, hS.F ht⟩) hS.2.2 dX5_goThroughChoice_188
    have L153 : ∀ (z : Nat → Nat → Int) (A : Nat → Nat → Int) (x12 : Int) (x13 : Int) (x14 : Int) (t0 : Int), wp_c5_goThroughChoice_153 L K N z r A y0 y1 y2 y4 y6 y7 x8 x9 x10 x11 x12 x13 x14 t0 P105 Q → ∀ (H : Heap) (locs : List Loc) (ls : Array Slot), va_P D vwCl (cw_w C L K z r A) H → va_D Ad (cw_w C L K z r A) → va_S Ad s.heap H locs → lv_has ls 17 [(0, .ref y0), (1, .int (hz_i y1)), (2, .long (hz_l y2)), (4, .long (hz_l y4)), (6, .int (hz_i y6)), (7, .int (hz_i y7)), (8, .int (hz_i x8)), (9, .int (hz_i x9)), (10, .ref x10), (11, .int (hz_i x11)), (12, .int (hz_i x12)), (13, .int (hz_i x13)), (14, .int (hz_i x14))] → W p l e (headSpec wsX5_goThroughChoice ({ frames := F + 3, cells := 0, slots := 0, locals := Lc + 69 } : Room)).room s m (List.toArray [.ref y0, .int (hz_i y1), .long (hz_l y2), .long (hz_l y4), .int (hz_i y6), .int (hz_i y7)]) below meth c H locs 0 0 QQ (F0 m 153 ls [.int (hz_i t0)]) := by
      intro z A x12 x13 x14 t0 hw H locs ls hP hD hS hl
      refine lv_istore (lv' := [(15, .int (hz_i t0)), (0, .ref y0), (1, .int (hz_i y1)), (2, .long (hz_l y2)), (4, .long (hz_l y4)), (6, .int (hz_i y6)), (7, .int (hz_i y7)), (8, .int (hz_i x8)), (9, .int (hz_i x9)), (10, .ref x10), (11, .int (hz_i x11)), (12, .int (hz_i x12)), (13, .int (hz_i x13)), (14, .int (hz_i x14))]) hx hb dX5_goThroughChoice_153 hl (by decide) rfl (fun ls hl => ?_)
      refine lv_iload hx hb dX5_goThroughChoice_155 (lv_at hl 8 rfl) ?_
      refine lv_iconst (v := hz_i 1) hx hb dX5_goThroughChoice_157 (by decide +kernel) ?_
      obtain ⟨h9a, hw⟩ := hw
      refine hz_icmp_ne (tgt := 166) hx hb dX5_goThroughChoice_158 (by decide) h9a ⟨by decide, by decide⟩ (fun c_15 => ?_) (fun c_15 => ?_)
      · have hw := hw.1 c_15
        refine lv_iload hx hb dX5_goThroughChoice_166 (lv_at hl 6 rfl) ?_
        exact L168 z A x12 x13 t0 y7 hw H locs ls hP hD hS (lv_sub hl [1, 2, 3, 4, 5, 6, 7, 8, 9, 10, 11, 12, 0] rfl)
      · have hw := hw.2 c_15
        refine lv_iload hx hb dX5_goThroughChoice_161 (lv_at hl 13 rfl) ?_
        refine lv_goto (tgt := 168) hx hb dX5_goThroughChoice_163 (by decide) ?_
        exact L168 z A x12 x13 t0 x14 hw H locs ls hP hD hS (lv_sub hl [1, 2, 3, 4, 5, 6, 7, 8, 9, 10, 11, 12, 0] rfl)
    refine lv_iload hx hb dX5_goThroughChoice_105 (lv_at hl 11 rfl) ?_
    refine lv_sipush (v := hz_i 400) hx hb dX5_goThroughChoice_107 (by decide +kernel) ?_
    obtain ⟨h9a, hw⟩ := hw
    refine hz_icmp_ge (tgt := 198) hx hb dX5_goThroughChoice_110 (by decide) h9a ⟨by decide, by decide⟩ (fun c_16 => ?_) (fun c_16 => ?_)
    · have hw := hw.1 c_16
      exact L198 z A x8 x10 x11 x12 hw H locs ls hP hD hS (lv_sub hl [0, 6, 8, 9, 10] rfl)
    · have hw := hw.2 c_16
      refine lv_aload_n hx hb dX5_goThroughChoice_113 rfl (lv_at hl 0 rfl) ?_
      obtain ⟨hO_17, hw⟩ := hw
      refine cw_get (ci := 5) (v := .ref (r y0 2)) hx hb hts hin5 hown hK hP hO_17.1 hO_17.2 rfl 2 (by decide) (hts (.fieldLink RX5 21 "HiddenMoves$Reader" "words" "LHiddenMoves$Words;") (List.mem_cons_of_mem _ (List.mem_append_left _ (List.mem_append_left _ (List.mem_append_left _ (List.mem_append_left _ (List.mem_append_left _ (List.mem_of_getElem? (i := 0) rfl)))))))) (fun _ h9 => h9) rfl dX5_goThroughChoice_114 ?_
      obtain ⟨hO_18, hw⟩ := hw
      refine cw_get (ci := 10) (v := .int (hz_i (z (r y0 2) 2))) hx hb hts hin10 hown hK hP hO_18.1 hO_18.2 rfl 2 (by decide) (hts (.fieldLink RX5 88 "HiddenMoves$Words" "kind" "I") (List.mem_cons_of_mem _ (List.mem_append_left _ (List.mem_append_left _ (List.mem_append_left _ (List.mem_append_left _ (List.mem_append_left _ (List.mem_of_getElem? (i := 2) rfl)))))))) (fun _ h9 => h9) rfl dX5_goThroughChoice_117 ?_
      refine lv_bipush (v := hz_i 41) hx hb dX5_goThroughChoice_120 (by decide +kernel) ?_
      obtain ⟨h9a, hw⟩ := hw
      refine hz_icmp_eq (tgt := 198) hx hb dX5_goThroughChoice_122 (by decide) h9a ⟨by decide, by decide⟩ (fun c_19 => ?_) (fun c_19 => ?_)
      · have hw := hw.1 c_19
        exact L198 z A x8 x10 x11 x12 hw H locs ls hP hD hS (lv_sub hl [0, 6, 8, 9, 10] rfl)
      · have hw := hw.2 c_19
        refine lv_aload_n hx hb dX5_goThroughChoice_125 rfl (lv_at hl 0 rfl) ?_
        refine cw_get (ci := 5) (v := .ref (r y0 2)) hx hb hts hin5 hown hK hP hO_17.1 hO_17.2 rfl 2 (by decide) (hts (.fieldLink RX5 21 "HiddenMoves$Reader" "words" "LHiddenMoves$Words;") (List.mem_cons_of_mem _ (List.mem_append_left _ (List.mem_append_left _ (List.mem_append_left _ (List.mem_append_left _ (List.mem_append_left _ (List.mem_of_getElem? (i := 0) rfl)))))))) (fun _ h9 => h9) rfl dX5_goThroughChoice_126 ?_
        have hFc := cw_free hD hS hA
        obtain ⟨q9, hq9⟩ := cw_at (C := C) (z := z) (r := r) (A := A) hO_18.1 hO_18.2
        refine va_callv (va_runV (As := []) (rest := []) ⟨hx, hb, hml, hown, hts⟩ (k_c10_advance l D _ C L K z r A (r y0 2) _ hw) (cwV 0 hts gX5_goThroughChoice_X10_advance rfl rfl rfl (by decide +kernel) ⟨show 1 + 1 ≤ F + 3 from by omega, show 8 + (1 + 11) + 20 ≤ Lc + 69 from by omega⟩) ⟨hm_blind, va_recv hK hP (ci := 10) (q0 := q9) rfl hq9, hm_pre hP hK hD hE⟩ rfl rfl hl.1 rfl (lv_room (Nat.le_of_ble_eq_true rfl)) dX5_goThroughChoice_129 ⟨Nat.le_of_ble_eq_true rfl, Nat.le_of_ble_eq_true rfl⟩) hS (fun q _ h => hFc q h) hFc (fun u t H1 locs ht hvm hw hB hz1 hk1 hS => ?_)
        obtain ⟨rv_20, z_21, _, _⟩ := u
        obtain ⟨hP, hK1, hD1⟩ := hB
        rw [ht] at hP
        have hD := hD1.weaken (fun k q _ h => hFc q.1 h)
        have hP : va_P D vwCl (cw_w C L K z_21 r A) H1 := hP
        have hD : va_D Ad (cw_w C L K z_21 r A) := hD
        generalize H1 = H at hP hS ⊢
        refine W.eq (g2 := F0 m 132 ls []) rfl ?_
        refine lv_iload hx hb dX5_goThroughChoice_132 (lv_at hl 9 rfl) ?_
        refine lv_iload hx hb dX5_goThroughChoice_134 (lv_at hl 10 rfl) ?_
        have hFc := cw_free hD hS hA
        refine va_calli (va_runS (As := [.int (hz_i x11), .int (hz_i x12)]) (rest := []) ⟨hx, hb, hml, hown, hts⟩ (k_c7_deed l D _ C L K z_21 r A x11 x12 _ hw) (va_cwS 2 hts gX5_goThroughChoice_X7_deed rfl rfl rfl (by decide +kernel) ⟨show 0 + 1 ≤ F + 3 from by omega, show 8 + (2 + 11) + 0 ≤ Lc + 69 from by omega⟩) ⟨hm_blind, hm_pre hP hK hD hE⟩ rfl rfl hl.1 rfl (lv_room (Nat.le_of_ble_eq_true rfl)) dX5_goThroughChoice_136 ⟨Nat.le_of_ble_eq_true rfl, Nat.le_of_ble_eq_true rfl⟩) hS (fun q _ h => hFc q h) hFc (fun rv u t H1 locs ht hvm hw hB hz1 hk1 hS => ?_)
        obtain ⟨rv_22, _, _, _⟩ := u
        obtain ⟨hP, hK1, hD1⟩ := hB
        rw [ht] at hP
        obtain ⟨hrv, hw⟩ := hw
        subst hrv
        have hD := hD1.weaken (fun k q _ h => hFc q.1 h)
        have hP : va_P D vwCl (cw_w C L K z_21 r A) H1 := hP
        have hD : va_D Ad (cw_w C L K z_21 r A) := hD
        generalize H1 = H at hP hS ⊢
        refine W.eq (g2 := F0 m 139 ls [.int (hz_i rv_22)]) rfl ?_
        refine lv_istore (lv' := [(14, .int (hz_i rv_22)), (0, .ref y0), (1, .int (hz_i y1)), (2, .long (hz_l y2)), (4, .long (hz_l y4)), (6, .int (hz_i y6)), (7, .int (hz_i y7)), (8, .int (hz_i x8)), (9, .int (hz_i x9)), (10, .ref x10), (11, .int (hz_i x11)), (12, .int (hz_i x12)), (13, .int (hz_i x13))]) hx hb dX5_goThroughChoice_139 hl (by decide) rfl (fun ls hl => ?_)
        refine lv_iload hx hb dX5_goThroughChoice_141 (lv_at hl 8 rfl) ?_
        obtain ⟨h9a, hw⟩ := hw
        refine hz_if_ne (tgt := 151) hx hb dX5_goThroughChoice_143 (by decide) h9a (fun c_23 => ?_) (fun c_23 => ?_)
        · have hw := hw.1 c_23
          refine lv_iload hx hb dX5_goThroughChoice_151 (lv_at hl 5 rfl) ?_
          exact L153 z_21 A x12 x13 rv_22 y6 hw H locs ls hP hD hS (lv_sub hl [1, 2, 3, 4, 5, 6, 7, 8, 9, 10, 11, 12, 0] rfl)
        · have hw := hw.2 c_23
          refine lv_iload hx hb dX5_goThroughChoice_146 (lv_at hl 0 rfl) ?_
          refine lv_goto (tgt := 153) hx hb dX5_goThroughChoice_148 (by decide) ?_
          exact L153 z_21 A x12 x13 rv_22 rv_22 hw H locs ls hP hD hS (lv_sub hl [1, 2, 3, 4, 5, 6, 7, 8, 9, 10, 11, 12, 0] rfl)
  have L66 : ∀ (z : Nat → Nat → Int) (A : Nat → Nat → Int) (x8 : Int) (x9 : Int) (x10 : Nat) (t0 : Int) (t1 : Int) (t2 : Int) (t3 : Nat) (t4 : Nat), wp_c5_goThroughChoice_66 L K N z r A y0 y1 y2 y4 y6 y7 x8 x9 x10 t0 t1 t2 t3 t4  Q → ∀ (H : Heap) (locs : List Loc) (ls : Array Slot), va_P D vwCl (cw_w C L K z r A) H → va_D Ad (cw_w C L K z r A) → va_S Ad s.heap H locs → lv_has ls 17 [(0, .ref y0), (1, .int (hz_i y1)), (2, .long (hz_l y2)), (4, .long (hz_l y4)), (6, .int (hz_i y6)), (7, .int (hz_i y7)), (8, .int (hz_i x8)), (9, .int (hz_i x9)), (10, .ref x10)] → W p l e (headSpec wsX5_goThroughChoice ({ frames := F + 3, cells := 0, slots := 0, locals := Lc + 69 } : Room)).room s m (List.toArray [.ref y0, .int (hz_i y1), .long (hz_l y2), .long (hz_l y4), .int (hz_i y6), .int (hz_i y7)]) below meth c H locs 0 0 QQ (F0 m 66 ls [.int (hz_i t0), .long (hz_l t1), .int (hz_i t2), .ref t3, .ref t4]) := by
    intro z A x8 x9 x10 t0 t1 t2 t3 t4 hw H locs ls hP hD hS hl
    obtain ⟨hO_27, hw⟩ := hw
    have hFc := cw_free hD hS hA
    obtain ⟨q9, hq9⟩ := cw_at (C := C) (z := z) (r := r) (A := A) hO_27.1 hO_27.2
    refine va_calli (va_runV (As := [.ref t3, .int (hz_i t2), .long (hz_l t1), .int (hz_i t0)]) (rest := []) ⟨hx, hb, hml, hown, hts⟩ (k_c5_enterSet l D _ C L K z r A t4 t3 t2 t1 t0 _ hw) (cwV 4 hts gX5_goThroughChoice_X5_enterSet rfl rfl rfl (by decide +kernel) ⟨show 2 + 1 ≤ F + 3 from by omega, show 8 + (7 + 11) + 43 ≤ Lc + 69 from by omega⟩) ⟨hm_blind, va_recv hK hP (ci := 5) (q0 := q9) rfl hq9, hm_pre hP hK hD hE⟩ rfl rfl hl.1 rfl (lv_room (Nat.le_of_ble_eq_true rfl)) dX5_goThroughChoice_66 ⟨Nat.le_of_ble_eq_true rfl, Nat.le_of_ble_eq_true rfl⟩) hS (fun q _ h => hFc q h) hFc (fun rv u t H1 locs ht hvm hw hB hz1 hk1 hS => ?_)
    obtain ⟨rv_24, z_25, _, A_26⟩ := u
    obtain ⟨hP, hK1, hD1⟩ := hB
    rw [ht] at hP
    obtain ⟨hrv, hw⟩ := hw
    subst hrv
    have hD := hD1.weaken (fun k q _ h => hFc q.1 h)
    have hP : va_P D vwCl (cw_w C L K z_25 r A_26) H1 := hP
    have hD : va_D Ad (cw_w C L K z_25 r A_26) := hD
    generalize H1 = H at hP hS ⊢
    refine W.eq (g2 := F0 m 69 ls [.int (hz_i rv_24)]) rfl ?_
    refine lv_istore (lv' := [(11, .int (hz_i rv_24)), (0, .ref y0), (1, .int (hz_i y1)), (2, .long (hz_l y2)), (4, .long (hz_l y4)), (6, .int (hz_i y6)), (7, .int (hz_i y7)), (8, .int (hz_i x8)), (9, .int (hz_i x9)), (10, .ref x10)]) hx hb dX5_goThroughChoice_69 hl (by decide) rfl (fun ls hl => ?_)
    refine lv_iload hx hb dX5_goThroughChoice_71 (lv_at hl 0 rfl) ?_
    refine lv_iconst (v := hz_i (-1)) hx hb dX5_goThroughChoice_73 (by decide +kernel) ?_
    obtain ⟨h9a, hw⟩ := hw
    refine hz_icmp_ne (tgt := 79) hx hb dX5_goThroughChoice_74 (by decide) h9a ⟨by decide, by decide⟩ (fun c_28 => ?_) (fun c_28 => ?_)
    · have hw := hw.1 c_28
      refine lv_aload_n hx hb dX5_goThroughChoice_79 rfl (lv_at hl 1 rfl) ?_
      obtain ⟨hO_29, hw⟩ := hw
      refine cw_get (ci := 5) (v := .ref (r y0 3)) hx hb hts hin5 hown hK hP hO_29.1 hO_29.2 rfl 3 (by decide) (hts (.fieldLink RX5 28 "HiddenMoves$Reader" "game" "LHiddenMoves$Game;") (List.mem_cons_of_mem _ (List.mem_append_left _ (List.mem_append_left _ (List.mem_append_left _ (List.mem_append_left _ (List.mem_append_left _ (List.mem_of_getElem? (i := 3) rfl)))))))) (fun _ h9 => h9) rfl dX5_goThroughChoice_80 ?_
      obtain ⟨hO_30, hw⟩ := hw
      refine cw_get (ci := 2) (v := .ref (r (r y0 3) 0)) hx hb hts hin2 hown hK hP hO_30.1 hO_30.2 rfl 0 (by decide) (hts (.fieldLink RX5 111 "HiddenMoves$Game" "counts" "[I") (List.mem_cons_of_mem _ (List.mem_append_left _ (List.mem_append_left _ (List.mem_append_left _ (List.mem_append_left _ (List.mem_append_left _ (List.mem_of_getElem? (i := 5) rfl)))))))) (fun _ h9 => h9) rfl dX5_goThroughChoice_83 ?_
      refine lv_iconst (v := hz_i 3) hx hb dX5_goThroughChoice_86 (by decide +kernel) ?_
      refine lv_dup2_11 hx hb dX5_goThroughChoice_87 rfl rfl ?_
      obtain ⟨hO_31, hw⟩ := hw
      obtain ⟨h9i, hw⟩ := hw
      refine cw_ild hx hb hK hP hO_31.1 hO_31.2.2 h9i hO_31.2.1 dX5_goThroughChoice_88 ?_
      refine lv_iconst (v := hz_i 1) hx hb dX5_goThroughChoice_89 (by decide +kernel) ?_
      refine hz_iadd hx hb dX5_goThroughChoice_90 ?_
      obtain ⟨h9i, hw⟩ := hw
      refine cw_ist (v := (A_26 (r (r y0 3) 0) ((3 : Int).toNat)) + 1) hx hb hK hP hD hS hO_31.1 hO_31.2.2 h9i hO_31.2.1 dX5_goThroughChoice_91 (fun H locs hP hD hS => ?_)
      obtain ⟨A_32, hA_32⟩ : ∃ y : Nat → Nat → Int, y = hz_s A_26 (r (r y0 3) 0) 3 ((A_26 (r (r y0 3) 0) ((3 : Int).toNat)) + 1) := ⟨_, rfl⟩
      rw [← hA_32] at hP hD
      have hw := hw A_32 hA_32
      refine lv_aload_n hx hb dX5_goThroughChoice_92 rfl (lv_at hl 1 rfl) ?_
      refine cw_get (ci := 5) (v := .ref (r y0 2)) hx hb hts hin5 hown hK hP hO_29.1 hO_29.2 rfl 2 (by decide) (hts (.fieldLink RX5 21 "HiddenMoves$Reader" "words" "LHiddenMoves$Words;") (List.mem_cons_of_mem _ (List.mem_append_left _ (List.mem_append_left _ (List.mem_append_left _ (List.mem_append_left _ (List.mem_append_left _ (List.mem_of_getElem? (i := 0) rfl)))))))) (fun _ h9 => h9) rfl dX5_goThroughChoice_93 ?_
      obtain ⟨hO_35, hw⟩ := hw
      have hFc := cw_free hD hS hA
      obtain ⟨q9, hq9⟩ := cw_at (C := C) (z := z_25) (r := r) (A := A_32) hO_35.1 hO_35.2
      refine va_callv (va_runV (As := []) (rest := []) ⟨hx, hb, hml, hown, hts⟩ (k_c10_advance l D _ C L K z_25 r A_32 (r y0 2) _ hw) (cwV 0 hts gX5_goThroughChoice_X10_advance rfl rfl rfl (by decide +kernel) ⟨show 1 + 1 ≤ F + 3 from by omega, show 8 + (1 + 11) + 20 ≤ Lc + 69 from by omega⟩) ⟨hm_blind, va_recv hK hP (ci := 10) (q0 := q9) rfl hq9, hm_pre hP hK hD hE⟩ rfl rfl hl.1 rfl (lv_room (Nat.le_of_ble_eq_true rfl)) dX5_goThroughChoice_96 ⟨Nat.le_of_ble_eq_true rfl, Nat.le_of_ble_eq_true rfl⟩) hS (fun q _ h => hFc q h) hFc (fun u t H1 locs ht hvm hw hB hz1 hk1 hS => ?_)
      obtain ⟨rv_33, z_34, _, _⟩ := u
      obtain ⟨hP, hK1, hD1⟩ := hB
      rw [ht] at hP
      have hD := hD1.weaken (fun k q _ h => hFc q.1 h)
      have hP : va_P D vwCl (cw_w C L K z_34 r A_32) H1 := hP
      have hD : va_D Ad (cw_w C L K z_34 r A_32) := hD
      generalize H1 = H at hP hS ⊢
      refine W.eq (g2 := F0 m 99 ls []) rfl ?_
      refine lv_iconst (v := hz_i 0) hx hb dX5_goThroughChoice_99 (by decide +kernel) ?_
      refine lv_istore (lv' := [(12, .int (hz_i 0)), (11, .int (hz_i rv_24)), (0, .ref y0), (1, .int (hz_i y1)), (2, .long (hz_l y2)), (4, .long (hz_l y4)), (6, .int (hz_i y6)), (7, .int (hz_i y7)), (8, .int (hz_i x8)), (9, .int (hz_i x9)), (10, .ref x10)]) hx hb dX5_goThroughChoice_100 hl (by decide) rfl (fun ls hl => ?_)
      refine lv_iconst (v := hz_i 0) hx hb dX5_goThroughChoice_102 (by decide +kernel) ?_
      refine lv_istore (lv' := [(13, .int (hz_i 0)), (12, .int (hz_i 0)), (11, .int (hz_i rv_24)), (0, .ref y0), (1, .int (hz_i y1)), (2, .long (hz_l y2)), (4, .long (hz_l y4)), (6, .int (hz_i y6)), (7, .int (hz_i y7)), (8, .int (hz_i x8)), (9, .int (hz_i x9)), (10, .ref x10)]) hx hb dX5_goThroughChoice_103 hl (by decide) rfl (fun ls hl => ?_)
      exact L105 z_34 A_32 x8 x9 x10 rv_24 0 0 hw H locs ls hP hD hS (lv_sub hl [3, 4, 5, 6, 7, 8, 9, 10, 11, 2, 1, 0] rfl)
    · have hw := hw.2 c_28
      refine lv_iconst (v := hz_i 0) hx hb dX5_goThroughChoice_77 (by decide +kernel) ?_
      subst hQQ
      subst hAe
      exact W.zret (v := hz_i 0) hx hb hr (hz_tZ (by decide)) (fun t ht hW => ⟨⟨hz_i 0, (0, z_25, r, A_26), rfl, ⟨rfl, hw⟩, by rw [ht]; exact hP, va_K.moved hW.alike hK, hD⟩, hS.F ht⟩) hS.2.2 dX5_goThroughChoice_78
  have L26 : ∀ (z : Nat → Nat → Int) (A : Nat → Nat → Int) (x8 : Int) (t0 : Int), wp_c5_goThroughChoice_26 L K N z r A y0 y1 y2 y4 y6 y7 x8 t0  Q → ∀ (H : Heap) (locs : List Loc) (ls : Array Slot), va_P D vwCl (cw_w C L K z r A) H → va_D Ad (cw_w C L K z r A) → va_S Ad s.heap H locs → lv_has ls 17 [(0, .ref y0), (1, .int (hz_i y1)), (2, .long (hz_l y2)), (4, .long (hz_l y4)), (6, .int (hz_i y6)), (7, .int (hz_i y7)), (8, .int (hz_i x8))] → W p l e (headSpec wsX5_goThroughChoice ({ frames := F + 3, cells := 0, slots := 0, locals := Lc + 69 } : Room)).room s m (List.toArray [.ref y0, .int (hz_i y1), .long (hz_l y2), .long (hz_l y4), .int (hz_i y6), .int (hz_i y7)]) below meth c H locs 0 0 QQ (F0 m 26 ls [.int (hz_i t0)]) := by
    intro z A x8 t0 hw H locs ls hP hD hS hl
    refine lv_istore (lv' := [(9, .int (hz_i t0)), (0, .ref y0), (1, .int (hz_i y1)), (2, .long (hz_l y2)), (4, .long (hz_l y4)), (6, .int (hz_i y6)), (7, .int (hz_i y7)), (8, .int (hz_i x8))]) hx hb dX5_goThroughChoice_26 hl (by decide) rfl (fun ls hl => ?_)
    refine lv_aload_n hx hb dX5_goThroughChoice_28 rfl (lv_at hl 1 rfl) ?_
    obtain ⟨hO_36, hw⟩ := hw
    refine cw_get (ci := 5) (v := .ref (r y0 3)) hx hb hts hin5 hown hK hP hO_36.1 hO_36.2 rfl 3 (by decide) (hts (.fieldLink RX5 28 "HiddenMoves$Reader" "game" "LHiddenMoves$Game;") (List.mem_cons_of_mem _ (List.mem_append_left _ (List.mem_append_left _ (List.mem_append_left _ (List.mem_append_left _ (List.mem_append_left _ (List.mem_of_getElem? (i := 3) rfl)))))))) (fun _ h9 => h9) rfl dX5_goThroughChoice_29 ?_
    obtain ⟨hO_37, hw⟩ := hw
    refine cw_get (ci := 2) (v := .ref (r (r y0 3) 1)) hx hb hts hin2 hown hK hP hO_37.1 hO_37.2 rfl 1 (by decide) (hts (.fieldLink RX5 153 "HiddenMoves$Game" "sides" "[LHiddenMoves$Side;") (List.mem_cons_of_mem _ (List.mem_append_left _ (List.mem_append_left _ (List.mem_append_left _ (List.mem_append_left _ (List.mem_append_left _ (List.mem_of_getElem? (i := 4) rfl)))))))) (fun _ h9 => h9) rfl dX5_goThroughChoice_32 ?_
    refine lv_iload hx hb dX5_goThroughChoice_35 (lv_at hl 0 rfl) ?_
    obtain ⟨hO_38, hw⟩ := hw
    obtain ⟨h9i, hw⟩ := hw
    refine cw_ald hx hb hK hP hO_38.1 hO_38.2.2 rfl h9i hO_38.2.1 dX5_goThroughChoice_37 ?_
    refine lv_astore (lv' := [(10, .ref (cw_g K (r (r y0 3) 1) (t0.toNat))), (9, .int (hz_i t0)), (0, .ref y0), (1, .int (hz_i y1)), (2, .long (hz_l y2)), (4, .long (hz_l y4)), (6, .int (hz_i y6)), (7, .int (hz_i y7)), (8, .int (hz_i x8))]) hx hb dX5_goThroughChoice_38 hl (by decide) rfl (fun ls hl => ?_)
    refine lv_aload_n hx hb dX5_goThroughChoice_40 rfl (lv_at hl 2 rfl) ?_
    refine cw_get (ci := 5) (v := .ref (r y0 2)) hx hb hts hin5 hown hK hP hO_36.1 hO_36.2 rfl 2 (by decide) (hts (.fieldLink RX5 21 "HiddenMoves$Reader" "words" "LHiddenMoves$Words;") (List.mem_cons_of_mem _ (List.mem_append_left _ (List.mem_append_left _ (List.mem_append_left _ (List.mem_append_left _ (List.mem_append_left _ (List.mem_of_getElem? (i := 0) rfl)))))))) (fun _ h9 => h9) rfl dX5_goThroughChoice_41 ?_
    obtain ⟨hO_41, hw⟩ := hw
    have hFc := cw_free hD hS hA
    obtain ⟨q9, hq9⟩ := cw_at (C := C) (z := z) (r := r) (A := A) hO_41.1 hO_41.2
    refine va_callv (va_runV (As := []) (rest := []) ⟨hx, hb, hml, hown, hts⟩ (k_c10_advance l D _ C L K z r A (r y0 2) _ hw) (cwV 0 hts gX5_goThroughChoice_X10_advance rfl rfl rfl (by decide +kernel) ⟨show 1 + 1 ≤ F + 3 from by omega, show 8 + (1 + 11) + 20 ≤ Lc + 69 from by omega⟩) ⟨hm_blind, va_recv hK hP (ci := 10) (q0 := q9) rfl hq9, hm_pre hP hK hD hE⟩ rfl rfl hl.1 rfl (lv_room (Nat.le_of_ble_eq_true rfl)) dX5_goThroughChoice_44 ⟨Nat.le_of_ble_eq_true rfl, Nat.le_of_ble_eq_true rfl⟩) hS (fun q _ h => hFc q h) hFc (fun u t H1 locs ht hvm hw hB hz1 hk1 hS => ?_)
    obtain ⟨rv_39, z_40, _, _⟩ := u
    obtain ⟨hP, hK1, hD1⟩ := hB
    rw [ht] at hP
    have hD := hD1.weaken (fun k q _ h => hFc q.1 h)
    have hP : va_P D vwCl (cw_w C L K z_40 r A) H1 := hP
    have hD : va_D Ad (cw_w C L K z_40 r A) := hD
    generalize H1 = H at hP hS ⊢
    refine W.eq (g2 := F0 m 47 ls []) rfl ?_
    refine lv_aload_n hx hb dX5_goThroughChoice_47 rfl (lv_at hl 2 rfl) ?_
    refine lv_aload hx hb dX5_goThroughChoice_48 (lv_at hl 0 rfl) ?_
    refine lv_iload hx hb dX5_goThroughChoice_50 (lv_at hl 8 rfl) ?_
    refine lv_lload hx hb dX5_goThroughChoice_52 (lv_at hl 5 rfl) ?_
    refine lv_iload hx hb dX5_goThroughChoice_54 (lv_at hl 1 rfl) ?_
    obtain ⟨h9a, hw⟩ := hw
    refine hz_if_ne (tgt := 64) hx hb dX5_goThroughChoice_56 (by decide) h9a (fun c_42 => ?_) (fun c_42 => ?_)
    · have hw := hw.1 c_42
      refine lv_iload hx hb dX5_goThroughChoice_64 (lv_at hl 7 rfl) ?_
      exact L66 z_40 A x8 t0 (cw_g K (r (r y0 3) 1) (t0.toNat)) y7 y4 x8 (cw_g K (r (r y0 3) 1) (t0.toNat)) y0 hw H locs ls hP hD hS (lv_sub hl [2, 3, 4, 5, 6, 7, 8, 1, 0] rfl)
    · have hw := hw.2 c_42
      refine lv_iload hx hb dX5_goThroughChoice_59 (lv_at hl 6 rfl) ?_
      refine lv_goto (tgt := 66) hx hb dX5_goThroughChoice_61 (by decide) ?_
      exact L66 z_40 A x8 t0 (cw_g K (r (r y0 3) 1) (t0.toNat)) y6 y4 x8 (cw_g K (r (r y0 3) 1) (t0.toNat)) y0 hw H locs ls hP hD hS (lv_sub hl [2, 3, 4, 5, 6, 7, 8, 1, 0] rfl)
  have hP := hP0; have hD := hD0; have hS := hS0; have hl := hl0; have hw := hw0
  obtain ⟨H, hH⟩ : ∃ H : Heap, H = s.heap := ⟨_, rfl⟩
  obtain ⟨locs, hlocs⟩ : ∃ L : List Loc, L = [] := ⟨_, rfl⟩
  rw [← hH] at hP
  have hS : va_S Ad s.heap H locs := by rw [hH, hlocs]; exact hS
  refine mw_HL hH hlocs ?_
  refine lv_aload_n hx hb dX5_goThroughChoice_0 rfl (lv_at hl 0 rfl) ?_
  obtain ⟨hO_43, hw⟩ := hw
  refine cw_get (ci := 5) (v := .ref (r y0 2)) hx hb hts hin5 hown hK hP hO_43.1 hO_43.2 rfl 2 (by decide) (hts (.fieldLink RX5 21 "HiddenMoves$Reader" "words" "LHiddenMoves$Words;") (List.mem_cons_of_mem _ (List.mem_append_left _ (List.mem_append_left _ (List.mem_append_left _ (List.mem_append_left _ (List.mem_append_left _ (List.mem_of_getElem? (i := 0) rfl)))))))) (fun _ h9 => h9) rfl dX5_goThroughChoice_1 ?_
  obtain ⟨hO_44, hw⟩ := hw
  refine cw_get (ci := 10) (v := .int (hz_i (z (r y0 2) 3))) hx hb hts hin10 hown hK hP hO_44.1 hO_44.2 rfl 3 (by decide) (hts (.fieldLink RX5 74 "HiddenMoves$Words" "begin" "I") (List.mem_cons_of_mem _ (List.mem_append_left _ (List.mem_append_left _ (List.mem_append_left _ (List.mem_append_left _ (List.mem_append_left _ (List.mem_of_getElem? (i := 1) rfl)))))))) (fun _ h9 => h9) rfl dX5_goThroughChoice_4 ?_
  refine hz_topi (fun x8_45 hx8_45 => ?_)
  have hw := hw x8_45 hx8_45
  refine lv_istore (lv' := [(8, .int (hz_i x8_45)), (0, .ref y0), (1, .int (hz_i y1)), (2, .long (hz_l y2)), (4, .long (hz_l y4)), (6, .int (hz_i y6)), (7, .int (hz_i y7))]) hx hb dX5_goThroughChoice_7 hl (by decide) rfl (fun ls hl => ?_)
  refine lv_aload_n hx hb dX5_goThroughChoice_9 rfl (lv_at hl 1 rfl) ?_
  refine cw_get (ci := 5) (v := .ref (r y0 2)) hx hb hts hin5 hown hK hP hO_43.1 hO_43.2 rfl 2 (by decide) (hts (.fieldLink RX5 21 "HiddenMoves$Reader" "words" "LHiddenMoves$Words;") (List.mem_cons_of_mem _ (List.mem_append_left _ (List.mem_append_left _ (List.mem_append_left _ (List.mem_append_left _ (List.mem_append_left _ (List.mem_of_getElem? (i := 0) rfl)))))))) (fun _ h9 => h9) rfl dX5_goThroughChoice_10 ?_
  refine cw_get (ci := 10) (v := .int (hz_i (z (r y0 2) 2))) hx hb hts hin10 hown hK hP hO_44.1 hO_44.2 rfl 2 (by decide) (hts (.fieldLink RX5 88 "HiddenMoves$Words" "kind" "I") (List.mem_cons_of_mem _ (List.mem_append_left _ (List.mem_append_left _ (List.mem_append_left _ (List.mem_append_left _ (List.mem_append_left _ (List.mem_of_getElem? (i := 2) rfl)))))))) (fun _ h9 => h9) rfl dX5_goThroughChoice_13 ?_
  refine lv_bipush (v := hz_i 65) hx hb dX5_goThroughChoice_16 (by decide +kernel) ?_
  obtain ⟨h9a, hw⟩ := hw
  refine hz_icmp_ne (tgt := 25) hx hb dX5_goThroughChoice_18 (by decide) h9a ⟨by decide, by decide⟩ (fun c_46 => ?_) (fun c_46 => ?_)
  · have hw := hw.1 c_46
    refine lv_iconst (v := hz_i 1) hx hb dX5_goThroughChoice_25 (by decide +kernel) ?_
    exact L26 z A x8_45 1 hw H locs ls hP hD hS (lv_sub hl [1, 2, 3, 4, 5, 6, 0] rfl)
  · have hw := hw.2 c_46
    refine lv_iconst (v := hz_i 0) hx hb dX5_goThroughChoice_21 (by decide +kernel) ?_
    refine lv_goto (tgt := 26) hx hb dX5_goThroughChoice_22 (by decide) ?_
    exact L26 z A x8_45 0 hw H locs ls hP hD hS (lv_sub hl [1, 2, 3, 4, 5, 6, 0] rfl)

noncomputable def wp_c5_goThroughNode_21 (L : List Nat) (K : Nat → cw_K) (N : ((Nat → Nat → Int) → (Nat → Nat → Int) → Nat → Int → Int → Int → Int → Int → (Int → (Nat → Nat → Int) → (Nat → Nat → Int) → Prop) → Prop)) (z : Nat → Nat → Int) (r : Nat → Nat → Nat) (A : Nat → Nat → Int) (y0 : Nat) (Q : Int → (Nat → Nat → Int) → (Nat → Nat → Int) → Prop) : Prop := cw_O L K 5 y0 ∧ cw_O L K 10 (r y0 2) ∧ wp_c5_refuse L K z r A y0 2 (z (r y0 2) 3) (fun rv_3 z_4 => (rv_3 = 0 ∨ rv_3 = 1) ∧ Q rv_3 z_4 A)
noncomputable def wp_c5_goThroughNode (L : List Nat) (K : Nat → cw_K) (N : ((Nat → Nat → Int) → (Nat → Nat → Int) → Nat → Int → Int → Int → Int → Int → (Int → (Nat → Nat → Int) → (Nat → Nat → Int) → Prop) → Prop)) (z : Nat → Nat → Int) (r : Nat → Nat → Nat) (A : Nat → Nat → Int) (y0 : Nat) (y1 : Int) (y2 : Int) (y4 : Int) (y6 : Int) (y7 : Int) (Q : Int → (Nat → Nat → Int) → (Nat → Nat → Int) → Prop) : Prop := cw_O L K 5 y0 ∧ cw_O L K 2 (r y0 3) ∧ cw_A L K 0 (r (r y0 3) 0) ∧ ((0 : Int) ≤ 0 ∧ 0 < (cw_n K (r (r y0 3) 0) : Int)) ∧ hz_rI (A (r (r y0 3) 0) ((0 : Int).toNat)) ∧ ((400 ≤ A (r (r y0 3) 0) ((0 : Int).toNat) → wp_c5_goThroughNode_21 L K N z r A y0  Q) ∧ (¬ (400 ≤ A (r (r y0 3) 0) ((0 : Int).toNat)) → hz_rI y1 ∧ ((y1 ≤ 20 → ((0 : Int) ≤ 0 ∧ 0 < (cw_n K (r (r y0 3) 0) : Int)) ∧ ((0 : Int) ≤ 0 ∧ 0 < (cw_n K (r (r y0 3) 0) : Int)) ∧ ∀ A_10 : Nat → Nat → Int, A_10 = hz_s A (r (r y0 3) 0) 0 ((A (r (r y0 3) 0) ((0 : Int).toNat)) + 1) → cw_O L K 10 (r y0 2) ∧ hz_rI (z (r y0 2) 2) ∧ ((z (r y0 2) 2 = 63 → wp_c5_goThroughDraw L K N z r A_10 y0 y1 y2 y4 y6 y7 (fun rv_12 z_13 A_14 => (rv_12 = 0 ∨ rv_12 = 1) ∧ Q rv_12 z_13 A_14)) ∧ (¬ (z (r y0 2) 2) = 63 → ((z (r y0 2) 2 = 91 → wp_c5_goThroughEnd L K z r A_10 y0 y2 y4 y6 y7 (fun rv_16 z_17 A_18 => (rv_16 = 0 ∨ rv_16 = 1) ∧ Q rv_16 z_17 A_18)) ∧ (¬ (z (r y0 2) 2) = 91 → wp_c5_goThroughChoice L K N z r A_10 y0 y1 y2 y4 y6 y7 (fun rv_20 z_21 A_22 => (rv_20 = 0 ∨ rv_20 = 1) ∧ Q rv_20 z_21 A_22)))))) ∧ (¬ (y1 ≤ 20) → wp_c5_goThroughNode_21 L K N z r A y0  Q))))
set_option maxHeartbeats 4000000 in
set_option maxRecDepth 100000 in
theorem k_c5_goThroughNode (l : Launch) (D : va_G) (sz : Nat) (C : Nat → ClassId) (L : List Nat) (K : Nat → cw_K) (z : Nat → Nat → Int) (r : Nat → Nat → Nat) (A : Nat → Nat → Int) (y0 : Nat) (y1 : Int) (y2 : Int) (y4 : Int) (y6 : Int) (y7 : Int) (Q : Int → (Nat → Nat → Int) → (Nat → Nat → Int) → Prop) {F Lc : Nat} (N : ((Nat → Nat → Int) → (Nat → Nat → Int) → Nat → Int → Int → Int → Int → Int → (Int → (Nat → Nat → Int) → (Nat → Nat → Int) → Prop) → Prop)) (hN : ∀ (z A : Nat → Nat → Int) (y0 : Nat) (y1 y2 y4 y6 y7 : Int) (Q : Int → (Nat → Nat → Int) → (Nat → Nat → Int) → Prop), N z A y0 y1 y2 y4 y6 y7 Q → ∀ sz : Nat, Met l yX5_goThroughNode wsX5_goThroughNode ({ frames := F, cells := 0, slots := 0, locals := Lc } : Room) (va_Pc [.ref y0, .int (hz_i y1), .long (hz_l y2), .long (hz_l y4), .int (hz_i y6), .int (hz_i y7)] (hm_P D (cw_w C L K z r A) (cw_t C) sz)) (va_Qi (S := Int × (Nat → Nat → Int) × (Nat → Nat → Nat) × (Nat → Nat → Int)) (fun r u => r = hz_i u.1 ∧ Q u.1 u.2.1 u.2.2.2) (fun u t => hm_B D (va_A (cw_w C L K z r A) sz) (cw_w C L K u.2.1 r u.2.2.2) (cw_t C) t) (va_A (cw_w C L K z r A) sz)) 0 0 (va_A (cw_w C L K z r A) sz)) (hw : wp_c5_goThroughNode L K N z r A y0 y1 y2 y4 y6 y7 Q) : Met l yX5_goThroughNode wsX5_goThroughNode ({ frames := F + 4, cells := 0, slots := 0, locals := Lc + 119 } : Room) (va_Pc [.ref y0, .int (hz_i y1), .long (hz_l y2), .long (hz_l y4), .int (hz_i y6), .int (hz_i y7)] (hm_P D (cw_w C L K z r A) (cw_t C) sz)) (va_Qi (S := Int × (Nat → Nat → Int) × (Nat → Nat → Nat) × (Nat → Nat → Int)) (fun r u => r = hz_i u.1 ∧ Q u.1 u.2.1 u.2.2.2) (fun u t => hm_B D (va_A (cw_w C L K z r A) sz) (cw_w C L K u.2.1 r u.2.2.2) (cw_t C) t) (va_A (cw_w C L K z r A) sz)) 0 0 (va_A (cw_w C L K z r A) sz) := by
  refine Met.ofW (cc := cX5_goThroughNode) (maxL := 8) (ret := (some .boolean)) (by decide) rfl ?_
  intro p e s m args below meth c s₁ B hml hv
  obtain ⟨rfl, hsz, hP, hK, hD0, hE⟩ := hv
  have hx := B.exec
  have hb := B.bytes
  have hr := B.returns
  have hts := atoms_spec (ws := wsX5_goThroughNode) B.pre
  have hown : s.vm.findClass RX5 = some m.cls := findClass_of_methodNamed B.named
  have hlocks := B.notSynchronized
  have hin2 : ∀ w ∈ u_ws RX2 TX2 4, w ∈ wsX5_goThroughNode := fun w h => List.mem_cons_of_mem _ (List.mem_append_left _ (List.mem_append_right _ (h)))
  have hin5 : ∀ w ∈ u_ws RX5 TX5 13, w ∈ wsX5_goThroughNode := fun w h => List.mem_cons_of_mem _ (List.mem_append_left _ (List.mem_append_left _ (List.mem_append_left _ (List.mem_append_right _ (h)))))
  have hin10 : ∀ w ∈ u_ws RX10 TX10 6, w ∈ wsX5_goThroughNode := fun w h => List.mem_cons_of_mem _ (List.mem_append_left _ (List.mem_append_left _ (List.mem_append_right _ (h))))
  subst hsz
  have hD := hD0.self (sz := s.heap.size)
  generalize hAe : va_A (cw_w C L K z r A) s.heap.size = Ad at hD ⊢
  have hA : ∀ q : Nat, s.heap.size ≤ q → Ad q := fun q h => by rw [← hAe]; exact Or.inr h
  have hS : va_S Ad s.heap s.heap [] := va_S.rf
  have hl := lv_entry ([.ref y0, .int (hz_i y1), .long (hz_l y2), .long (hz_l y4), .int (hz_i y6), .int (hz_i y7)]) (n := 8) (Nat.le_of_ble_eq_true rfl)
  rw [lg_entry_eq]
  generalize (lg_sl ([.ref y0, .int (hz_i y1), .long (hz_l y2), .long (hz_l y4), .int (hz_i y6), .int (hz_i y7)]) ++ List.replicate (8 - (lg_sl ([.ref y0, .int (hz_i y1), .long (hz_l y2), .long (hz_l y4), .int (hz_i y6), .int (hz_i y7)])).length) Slot.unset).toArray = ls at hl ⊢
  have hl : lv_has ls 8 [(0, .ref y0), (1, .int (hz_i y1)), (2, .long (hz_l y2)), (4, .long (hz_l y4)), (6, .int (hz_i y6)), (7, .int (hz_i y7))] := hl
  refine mw_Q (fun QQ hQQ => ?_)
  have hP0 := hP; have hD0 := hD; have hS0 := hS; have hl0 := hl; have hw0 := hw
  clear hP hD hS hl hw
  have L21 : ∀ (z : Nat → Nat → Int) (A : Nat → Nat → Int), wp_c5_goThroughNode_21 L K N z r A y0  Q → ∀ (H : Heap) (locs : List Loc) (ls : Array Slot), va_P D vwCl (cw_w C L K z r A) H → va_D Ad (cw_w C L K z r A) → va_S Ad s.heap H locs → lv_has ls 8 [(0, .ref y0)] → W p l e (headSpec wsX5_goThroughNode ({ frames := F + 4, cells := 0, slots := 0, locals := Lc + 119 } : Room)).room s m (List.toArray [.ref y0, .int (hz_i y1), .long (hz_l y2), .long (hz_l y4), .int (hz_i y6), .int (hz_i y7)]) below meth c H locs 0 0 QQ (F0 m 21 ls []) := by
    intro z A hw H locs ls hP hD hS hl
    refine lv_aload_n hx hb dX5_goThroughNode_21 rfl (lv_at hl 0 rfl) ?_
    refine lv_iconst (v := hz_i 2) hx hb dX5_goThroughNode_22 (by decide +kernel) ?_
    refine lv_aload_n hx hb dX5_goThroughNode_23 rfl (lv_at hl 0 rfl) ?_
    obtain ⟨hO_1, hw⟩ := hw
    refine cw_get (ci := 5) (v := .ref (r y0 2)) hx hb hts hin5 hown hK hP hO_1.1 hO_1.2 rfl 2 (by decide) (hts (.fieldLink RX5 21 "HiddenMoves$Reader" "words" "LHiddenMoves$Words;") (List.mem_cons_of_mem _ (List.mem_append_left _ (List.mem_append_left _ (List.mem_append_left _ (List.mem_append_left _ (List.mem_append_left _ (List.mem_of_getElem? (i := 2) rfl)))))))) (fun _ h9 => h9) rfl dX5_goThroughNode_24 ?_
    obtain ⟨hO_2, hw⟩ := hw
    refine cw_get (ci := 10) (v := .int (hz_i (z (r y0 2) 3))) hx hb hts hin10 hown hK hP hO_2.1 hO_2.2 rfl 3 (by decide) (hts (.fieldLink RX5 74 "HiddenMoves$Words" "begin" "I") (List.mem_cons_of_mem _ (List.mem_append_left _ (List.mem_append_left _ (List.mem_append_left _ (List.mem_append_left _ (List.mem_append_left _ (List.mem_of_getElem? (i := 3) rfl)))))))) (fun _ h9 => h9) rfl dX5_goThroughNode_27 ?_
    have hFc := cw_free hD hS hA
    obtain ⟨q9, hq9⟩ := cw_at (C := C) (z := z) (r := r) (A := A) hO_1.1 hO_1.2
    refine va_calli (va_runV (As := [.int (hz_i 2), .int (hz_i (z (r y0 2) 3))]) (rest := []) ⟨hx, hb, hml, hown, hts⟩ (k_c5_refuse l D _ C L K z r A y0 2 (z (r y0 2) 3) _ hw) (cwV 2 hts gX5_goThroughNode_X5_refuse rfl rfl rfl (by decide +kernel) ⟨show 0 + 1 ≤ F + 4 from by omega, show 8 + (3 + 11) + 0 ≤ Lc + 119 from by omega⟩) ⟨hm_blind, va_recv hK hP (ci := 5) (q0 := q9) rfl hq9, hm_pre hP hK hD hE⟩ rfl rfl hl.1 rfl (lv_room (Nat.le_of_ble_eq_true rfl)) dX5_goThroughNode_30 ⟨Nat.le_of_ble_eq_true rfl, Nat.le_of_ble_eq_true rfl⟩) hS (fun q _ h => hFc q h) hFc (fun rv u t H1 locs ht hvm hw hB hz1 hk1 hS => ?_)
    obtain ⟨rv_3, z_4, _, _⟩ := u
    obtain ⟨hP, hK1, hD1⟩ := hB
    rw [ht] at hP
    obtain ⟨hrv, hw⟩ := hw
    subst hrv
    have hD := hD1.weaken (fun k q _ h => hFc q.1 h)
    have hP : va_P D vwCl (cw_w C L K z_4 r A) H1 := hP
    have hD : va_D Ad (cw_w C L K z_4 r A) := hD
    generalize H1 = H at hP hS ⊢
    refine W.eq (g2 := F0 m 33 ls [.int (hz_i rv_3)]) rfl ?_
    obtain ⟨h9z, hw⟩ := hw
    subst hQQ
    subst hAe
    exact W.zret (v := hz_i rv_3) hx hb hr (hz_tZ h9z) (fun t ht hW => ⟨⟨hz_i rv_3, (rv_3, z_4, r, A), rfl, ⟨rfl, hw⟩, by rw [ht]; exact hP, va_K.moved hW.alike hK, hD⟩, hS.F ht⟩) hS.2.2 dX5_goThroughNode_33
  have hP := hP0; have hD := hD0; have hS := hS0; have hl := hl0; have hw := hw0
  obtain ⟨H, hH⟩ : ∃ H : Heap, H = s.heap := ⟨_, rfl⟩
  obtain ⟨locs, hlocs⟩ : ∃ L : List Loc, L = [] := ⟨_, rfl⟩
  rw [← hH] at hP
  have hS : va_S Ad s.heap H locs := by rw [hH, hlocs]; exact hS
  refine mw_HL hH hlocs ?_
  refine lv_aload_n hx hb dX5_goThroughNode_0 rfl (lv_at hl 0 rfl) ?_
  obtain ⟨hO_5, hw⟩ := hw
  refine cw_get (ci := 5) (v := .ref (r y0 3)) hx hb hts hin5 hown hK hP hO_5.1 hO_5.2 rfl 3 (by decide) (hts (.fieldLink RX5 28 "HiddenMoves$Reader" "game" "LHiddenMoves$Game;") (List.mem_cons_of_mem _ (List.mem_append_left _ (List.mem_append_left _ (List.mem_append_left _ (List.mem_append_left _ (List.mem_append_left _ (List.mem_of_getElem? (i := 0) rfl)))))))) (fun _ h9 => h9) rfl dX5_goThroughNode_1 ?_
  obtain ⟨hO_6, hw⟩ := hw
  refine cw_get (ci := 2) (v := .ref (r (r y0 3) 0)) hx hb hts hin2 hown hK hP hO_6.1 hO_6.2 rfl 0 (by decide) (hts (.fieldLink RX5 111 "HiddenMoves$Game" "counts" "[I") (List.mem_cons_of_mem _ (List.mem_append_left _ (List.mem_append_left _ (List.mem_append_left _ (List.mem_append_left _ (List.mem_append_left _ (List.mem_of_getElem? (i := 1) rfl)))))))) (fun _ h9 => h9) rfl dX5_goThroughNode_4 ?_
  refine lv_iconst (v := hz_i 0) hx hb dX5_goThroughNode_7 (by decide +kernel) ?_
  obtain ⟨hO_7, hw⟩ := hw
  obtain ⟨h9i, hw⟩ := hw
  refine cw_ild hx hb hK hP hO_7.1 hO_7.2.2 h9i hO_7.2.1 dX5_goThroughNode_8 ?_
  refine lv_sipush (v := hz_i 400) hx hb dX5_goThroughNode_9 (by decide +kernel) ?_
  obtain ⟨h9a, hw⟩ := hw
  refine hz_icmp_ge (tgt := 21) hx hb dX5_goThroughNode_12 (by decide) h9a ⟨by decide, by decide⟩ (fun c_8 => ?_) (fun c_8 => ?_)
  · have hw := hw.1 c_8
    exact L21 z A hw H locs ls hP hD hS (lv_sub hl [0] rfl)
  · have hw := hw.2 c_8
    refine lv_iload_n hx hb dX5_goThroughNode_15 rfl (lv_at hl 1 rfl) ?_
    refine lv_bipush (v := hz_i 20) hx hb dX5_goThroughNode_16 (by decide +kernel) ?_
    obtain ⟨h9a, hw⟩ := hw
    refine hz_icmp_le (tgt := 34) hx hb dX5_goThroughNode_18 (by decide) h9a ⟨by decide, by decide⟩ (fun c_9 => ?_) (fun c_9 => ?_)
    · have hw := hw.1 c_9
      refine lv_aload_n hx hb dX5_goThroughNode_34 rfl (lv_at hl 0 rfl) ?_
      refine cw_get (ci := 5) (v := .ref (r y0 3)) hx hb hts hin5 hown hK hP hO_5.1 hO_5.2 rfl 3 (by decide) (hts (.fieldLink RX5 28 "HiddenMoves$Reader" "game" "LHiddenMoves$Game;") (List.mem_cons_of_mem _ (List.mem_append_left _ (List.mem_append_left _ (List.mem_append_left _ (List.mem_append_left _ (List.mem_append_left _ (List.mem_of_getElem? (i := 0) rfl)))))))) (fun _ h9 => h9) rfl dX5_goThroughNode_35 ?_
      refine cw_get (ci := 2) (v := .ref (r (r y0 3) 0)) hx hb hts hin2 hown hK hP hO_6.1 hO_6.2 rfl 0 (by decide) (hts (.fieldLink RX5 111 "HiddenMoves$Game" "counts" "[I") (List.mem_cons_of_mem _ (List.mem_append_left _ (List.mem_append_left _ (List.mem_append_left _ (List.mem_append_left _ (List.mem_append_left _ (List.mem_of_getElem? (i := 1) rfl)))))))) (fun _ h9 => h9) rfl dX5_goThroughNode_38 ?_
      refine lv_iconst (v := hz_i 0) hx hb dX5_goThroughNode_41 (by decide +kernel) ?_
      refine lv_dup2_11 hx hb dX5_goThroughNode_42 rfl rfl ?_
      obtain ⟨h9i, hw⟩ := hw
      refine cw_ild hx hb hK hP hO_7.1 hO_7.2.2 h9i hO_7.2.1 dX5_goThroughNode_43 ?_
      refine lv_iconst (v := hz_i 1) hx hb dX5_goThroughNode_44 (by decide +kernel) ?_
      refine hz_iadd hx hb dX5_goThroughNode_45 ?_
      obtain ⟨h9i, hw⟩ := hw
      refine cw_ist (v := (A (r (r y0 3) 0) ((0 : Int).toNat)) + 1) hx hb hK hP hD hS hO_7.1 hO_7.2.2 h9i hO_7.2.1 dX5_goThroughNode_46 (fun H locs hP hD hS => ?_)
      obtain ⟨A_10, hA_10⟩ : ∃ y : Nat → Nat → Int, y = hz_s A (r (r y0 3) 0) 0 ((A (r (r y0 3) 0) ((0 : Int).toNat)) + 1) := ⟨_, rfl⟩
      rw [← hA_10] at hP hD
      have hw := hw A_10 hA_10
      refine lv_aload_n hx hb dX5_goThroughNode_47 rfl (lv_at hl 0 rfl) ?_
      refine cw_get (ci := 5) (v := .ref (r y0 2)) hx hb hts hin5 hown hK hP hO_5.1 hO_5.2 rfl 2 (by decide) (hts (.fieldLink RX5 21 "HiddenMoves$Reader" "words" "LHiddenMoves$Words;") (List.mem_cons_of_mem _ (List.mem_append_left _ (List.mem_append_left _ (List.mem_append_left _ (List.mem_append_left _ (List.mem_append_left _ (List.mem_of_getElem? (i := 2) rfl)))))))) (fun _ h9 => h9) rfl dX5_goThroughNode_48 ?_
      obtain ⟨hO_11, hw⟩ := hw
      refine cw_get (ci := 10) (v := .int (hz_i (z (r y0 2) 2))) hx hb hts hin10 hown hK hP hO_11.1 hO_11.2 rfl 2 (by decide) (hts (.fieldLink RX5 88 "HiddenMoves$Words" "kind" "I") (List.mem_cons_of_mem _ (List.mem_append_left _ (List.mem_append_left _ (List.mem_append_left _ (List.mem_append_left _ (List.mem_append_left _ (List.mem_of_getElem? (i := 4) rfl)))))))) (fun _ h9 => h9) rfl dX5_goThroughNode_51 ?_
      obtain ⟨h9a, hw⟩ := hw
      by_cases h9c : (z (r y0 2) 2) = 63
      · have hw := hw.1 h9c
        refine lv_lookup (tgt := 92) (off := 38) hx hb dX5_goThroughNode_54 (by decide +kernel) (by rw [hz_i_toInt h9a, h9c]; decide +kernel) (by decide) ?_
        refine lv_aload_n hx hb dX5_goThroughNode_92 rfl (lv_at hl 0 rfl) ?_
        refine lv_iload_n hx hb dX5_goThroughNode_93 rfl (lv_at hl 1 rfl) ?_
        refine lv_lload_n hx hb dX5_goThroughNode_94 rfl (lv_at hl 2 rfl) ?_
        refine lv_lload hx hb dX5_goThroughNode_95 (lv_at hl 3 rfl) ?_
        refine lv_iload hx hb dX5_goThroughNode_97 (lv_at hl 4 rfl) ?_
        refine lv_iload hx hb dX5_goThroughNode_99 (lv_at hl 5 rfl) ?_
        have hFc := cw_free hD hS hA
        obtain ⟨q9, hq9⟩ := cw_at (C := C) (z := z) (r := r) (A := A_10) hO_5.1 hO_5.2
        refine va_calli (va_runV (As := [.int (hz_i y1), .long (hz_l y2), .long (hz_l y4), .int (hz_i y6), .int (hz_i y7)]) (rest := []) ⟨hx, hb, hml, hown, hts⟩ (k_c5_goThroughDraw l D _ C L K z r A_10 y0 y1 y2 y4 y6 y7 _ N hN hw) (cwV 5 hts gX5_goThroughNode_X5_goThroughDraw rfl rfl rfl (by decide +kernel) ⟨show F + 3 + 1 ≤ F + 4 from by omega, show 8 + (21 + 11) + Lc + 79 ≤ Lc + 119 from by omega⟩) ⟨hm_blind, va_recv hK hP (ci := 5) (q0 := q9) rfl hq9, hm_pre hP hK hD hE⟩ rfl rfl hl.1 rfl (lv_room (Nat.le_of_ble_eq_true rfl)) dX5_goThroughNode_101 ⟨Nat.le_of_ble_eq_true rfl, Nat.le_of_ble_eq_true rfl⟩) hS (fun q _ h => hFc q h) hFc (fun rv u t H1 locs ht hvm hw hB hz1 hk1 hS => ?_)
        obtain ⟨rv_12, z_13, _, A_14⟩ := u
        obtain ⟨hP, hK1, hD1⟩ := hB
        rw [ht] at hP
        obtain ⟨hrv, hw⟩ := hw
        subst hrv
        have hD := hD1.weaken (fun k q _ h => hFc q.1 h)
        have hP : va_P D vwCl (cw_w C L K z_13 r A_14) H1 := hP
        have hD : va_D Ad (cw_w C L K z_13 r A_14) := hD
        generalize H1 = H at hP hS ⊢
        refine W.eq (g2 := F0 m 104 ls [.int (hz_i rv_12)]) rfl ?_
        obtain ⟨h9z, hw⟩ := hw
        subst hQQ
        subst hAe
        exact W.zret (v := hz_i rv_12) hx hb hr (hz_tZ h9z) (fun t ht hW => ⟨⟨hz_i rv_12, (rv_12, z_13, r, A_14), rfl, ⟨rfl, hw⟩, by rw [ht]; exact hP, va_K.moved hW.alike hK, hD⟩, hS.F ht⟩) hS.2.2 dX5_goThroughNode_104
      have hw := hw.2 h9c
      have h9c_15 := h9c
      by_cases h9c : (z (r y0 2) 2) = 91
      · have hw := hw.1 h9c
        refine lv_lookup (tgt := 80) (off := 26) hx hb dX5_goThroughNode_54 (by decide +kernel) (by rw [hz_i_toInt h9a, h9c]; decide +kernel) (by decide) ?_
        refine lv_aload_n hx hb dX5_goThroughNode_80 rfl (lv_at hl 0 rfl) ?_
        refine lv_lload_n hx hb dX5_goThroughNode_81 rfl (lv_at hl 2 rfl) ?_
        refine lv_lload hx hb dX5_goThroughNode_82 (lv_at hl 3 rfl) ?_
        refine lv_iload hx hb dX5_goThroughNode_84 (lv_at hl 4 rfl) ?_
        refine lv_iload hx hb dX5_goThroughNode_86 (lv_at hl 5 rfl) ?_
        have hFc := cw_free hD hS hA
        obtain ⟨q9, hq9⟩ := cw_at (C := C) (z := z) (r := r) (A := A_10) hO_5.1 hO_5.2
        refine va_calli (va_runV (As := [.long (hz_l y2), .long (hz_l y4), .int (hz_i y6), .int (hz_i y7)]) (rest := []) ⟨hx, hb, hml, hown, hts⟩ (k_c5_goThroughEnd l D _ C L K z r A_10 y0 y2 y4 y6 y7 _ hw) (cwV 4 hts gX5_goThroughNode_X5_goThroughEnd rfl rfl rfl (by decide +kernel) ⟨show 3 + 1 ≤ F + 4 from by omega, show 8 + (12 + 11) + 79 ≤ Lc + 119 from by omega⟩) ⟨hm_blind, va_recv hK hP (ci := 5) (q0 := q9) rfl hq9, hm_pre hP hK hD hE⟩ rfl rfl hl.1 rfl (lv_room (Nat.le_of_ble_eq_true rfl)) dX5_goThroughNode_88 ⟨Nat.le_of_ble_eq_true rfl, Nat.le_of_ble_eq_true rfl⟩) hS (fun q _ h => hFc q h) hFc (fun rv u t H1 locs ht hvm hw hB hz1 hk1 hS => ?_)
        obtain ⟨rv_16, z_17, _, A_18⟩ := u
        obtain ⟨hP, hK1, hD1⟩ := hB
        rw [ht] at hP
        obtain ⟨hrv, hw⟩ := hw
        subst hrv
        have hD := hD1.weaken (fun k q _ h => hFc q.1 h)
        have hP : va_P D vwCl (cw_w C L K z_17 r A_18) H1 := hP
        have hD : va_D Ad (cw_w C L K z_17 r A_18) := hD
        generalize H1 = H at hP hS ⊢
        refine W.eq (g2 := F0 m 91 ls [.int (hz_i rv_16)]) rfl ?_
        obtain ⟨h9z, hw⟩ := hw
        subst hQQ
        subst hAe
        exact W.zret (v := hz_i rv_16) hx hb hr (hz_tZ h9z) (fun t ht hW => ⟨⟨hz_i rv_16, (rv_16, z_17, r, A_18), rfl, ⟨rfl, hw⟩, by rw [ht]; exact hP, va_K.moved hW.alike hK, hD⟩, hS.F ht⟩) hS.2.2 dX5_goThroughNode_91
      have hw := hw.2 h9c
      have h9c_19 := h9c
      refine lv_lookup (tgt := 105) (off := 51) hx hb dX5_goThroughNode_54 (by decide +kernel) (by rw [hz_i_toInt h9a]; show Op.lookupswitch.offset [(63, 38), (91, 26)] (51) (z (r y0 2) 2) = 51; simp only [Op.lookupswitch.offset_cons, Op.lookupswitch.offset_nil]; rw [if_neg (Ne.symm h9c_15), if_neg (Ne.symm h9c_19)]) (by decide) ?_
      refine lv_aload_n hx hb dX5_goThroughNode_105 rfl (lv_at hl 0 rfl) ?_
      refine lv_iload_n hx hb dX5_goThroughNode_106 rfl (lv_at hl 1 rfl) ?_
      refine lv_lload_n hx hb dX5_goThroughNode_107 rfl (lv_at hl 2 rfl) ?_
      refine lv_lload hx hb dX5_goThroughNode_108 (lv_at hl 3 rfl) ?_
      refine lv_iload hx hb dX5_goThroughNode_110 (lv_at hl 4 rfl) ?_
      refine lv_iload hx hb dX5_goThroughNode_112 (lv_at hl 5 rfl) ?_
      have hFc := cw_free hD hS hA
      obtain ⟨q9, hq9⟩ := cw_at (C := C) (z := z) (r := r) (A := A_10) hO_5.1 hO_5.2
      refine va_calli (va_runV (As := [.int (hz_i y1), .long (hz_l y2), .long (hz_l y4), .int (hz_i y6), .int (hz_i y7)]) (rest := []) ⟨hx, hb, hml, hown, hts⟩ (k_c5_goThroughChoice l D _ C L K z r A_10 y0 y1 y2 y4 y6 y7 _ N hN hw) (cwV 5 hts gX5_goThroughNode_X5_goThroughChoice rfl rfl rfl (by decide +kernel) ⟨show F + 3 + 1 ≤ F + 4 from by omega, show 8 + (17 + 11) + Lc + 69 ≤ Lc + 119 from by omega⟩) ⟨hm_blind, va_recv hK hP (ci := 5) (q0 := q9) rfl hq9, hm_pre hP hK hD hE⟩ rfl rfl hl.1 rfl (lv_room (Nat.le_of_ble_eq_true rfl)) dX5_goThroughNode_114 ⟨Nat.le_of_ble_eq_true rfl, Nat.le_of_ble_eq_true rfl⟩) hS (fun q _ h => hFc q h) hFc (fun rv u t H1 locs ht hvm hw hB hz1 hk1 hS => ?_)
      obtain ⟨rv_20, z_21, _, A_22⟩ := u
      obtain ⟨hP, hK1, hD1⟩ := hB
      rw [ht] at hP
      obtain ⟨hrv, hw⟩ := hw
      subst hrv
      have hD := hD1.weaken (fun k q _ h => hFc q.1 h)
      have hP : va_P D vwCl (cw_w C L K z_21 r A_22) H1 := hP
      have hD : va_D Ad (cw_w C L K z_21 r A_22) := hD
      generalize H1 = H at hP hS ⊢
      refine W.eq (g2 := F0 m 117 ls [.int (hz_i rv_20)]) rfl ?_
      obtain ⟨h9z, hw⟩ := hw
      subst hQQ
      subst hAe
      exact W.zret (v := hz_i rv_20) hx hb hr (hz_tZ h9z) (fun t ht hW => ⟨⟨hz_i rv_20, (rv_20, z_21, r, A_22), rfl, ⟨rfl, hw⟩, by rw [ht]; exact hP, va_K.moved hW.alike hK, hD⟩, hS.F ht⟩) hS.2.2 dX5_goThroughNode_117
    · have hw := hw.2 c_9
      exact L21 z A hw H locs ls hP hD hS (lv_sub hl [0] rfl)

/-- a node, with at most n nodes one in another -/
noncomputable def wp_c5_node (L : List Nat) (K : Nat → cw_K) (r : Nat → Nat → Nat) : Nat → ((Nat → Nat → Int) → (Nat → Nat → Int) → Nat → Int → Int → Int → Int → Int → (Int → (Nat → Nat → Int) → (Nat → Nat → Int) → Prop) → Prop)
  | 0 => fun _ _ _ _ _ _ _ _ _ => False
  | n + 1 => fun z A y0 y1 y2 y4 y6 y7 Q => wp_c5_goThroughNode L K (wp_c5_node L K r n) z r A y0 y1 y2 y4 y6 y7 Q
theorem k_c5_node (l : Launch) (D : va_G) (C : Nat → ClassId) (L : List Nat) (K : Nat → cw_K) (r : Nat → Nat → Nat) (n : Nat) : ∀ (z A : Nat → Nat → Int) (y0 : Nat) (y1 y2 y4 y6 y7 : Int) (Q : Int → (Nat → Nat → Int) → (Nat → Nat → Int) → Prop), wp_c5_node L K r n z A y0 y1 y2 y4 y6 y7 Q → ∀ sz : Nat, Met l yX5_goThroughNode wsX5_goThroughNode ({ frames := 4 * n, cells := 0, slots := 0, locals := 119 * n } : Room) (va_Pc [.ref y0, .int (hz_i y1), .long (hz_l y2), .long (hz_l y4), .int (hz_i y6), .int (hz_i y7)] (hm_P D (cw_w C L K z r A) (cw_t C) sz)) (va_Qi (S := Int × (Nat → Nat → Int) × (Nat → Nat → Nat) × (Nat → Nat → Int)) (fun r u => r = hz_i u.1 ∧ Q u.1 u.2.1 u.2.2.2) (fun u t => hm_B D (va_A (cw_w C L K z r A) sz) (cw_w C L K u.2.1 r u.2.2.2) (cw_t C) t) (va_A (cw_w C L K z r A) sz)) 0 0 (va_A (cw_w C L K z r A) sz) := by
  induction n with
  | zero =>
    intro z A y0 y1 y2 y4 y6 y7 Q hw
    exact hw.elim
  | succ n ih =>
    intro z A y0 y1 y2 y4 y6 y7 Q hw sz
    exact k_c5_goThroughNode l D sz C L K z r A y0 y1 y2 y4 y6 y7 Q (wp_c5_node L K r n) ih hw
