noncomputable def wp_bigProduct_217 (z : Nat → Int) (A : Nat → Nat → Int) (y1 : Int) (t0 : Int) (t1 : Int) (Q : (Nat → Nat → Int) → Prop) : Prop := (0 ≤ t1 ∧ t1 < 4250) ∧ (t0 = 0 ∨ t0 = 1) ∧ ∀ A_1 : Nat → Nat → Int, A_1 = hz_s A 2 t1 t0 → wp_bigTrim z A_1 y1 (fun A_3 => Q A_3)
noncomputable def wp_bigProduct_72 (z : Nat → Int) (A : Nat → Nat → Int) (y1 : Int) (y2 : Int) (y3 : Int) (x4 : Int) (x5 : Int) (x7 : Int) (P55 : (Nat → Nat → Int) → Int → Prop) (Q : (Nat → Nat → Int) → Prop) : Prop := ∀ P72 : (Nat → Nat → Int) → Int → Int → Prop, (∀ (A : Nat → Nat → Int) (x5 : Int) (x7 : Int), (0 ≤ y3 ∧ y3 < 4250) ∧ hz_rI x7 ∧ hz_rI (A 1 (y3.toNat)) ∧ ((A 1 (y3.toNat) ≤ x7 → wp_from z A y1 (fun r_5 => (0 ≤ y3 ∧ y3 < 4250) ∧ (0 ≤ (r_5 + x4) + (A 1 (y3.toNat)) ∧ (r_5 + x4) + (A 1 (y3.toNat)) < 553480) ∧ ∀ A_6 : Nat → Nat → Int, A_6 = hz_s A 0 ((r_5 + x4) + (A 1 (y3.toNat))) x5 → ∀ x4_7 : Int, x4_7 = x4 + 1 → P55 A_6 x4_7)) ∧ (¬ (A 1 (y3.toNat) ≤ x7) → wp_from z A y1 (fun r_8 => ∀ x8_9 : Int, x8_9 = (r_8 + x4) + x7 → (0 ≤ x8_9 ∧ x8_9 < 553480) ∧ hz_rI (A 0 (x8_9.toNat)) ∧ wp_from z A y2 (fun r_10 => (0 ≤ r_10 + x4 ∧ r_10 + x4 < 553480) ∧ hz_rI (A 0 ((r_10 + x4).toNat)) ∧ wp_from z A y3 (fun r_11 => (0 ≤ r_11 + x7 ∧ r_11 + x7 < 553480) ∧ hz_rI (A 0 ((r_11 + x7).toNat)) ∧ ∀ x5_12 : Int, x5_12 = (x5 + (A 0 (x8_9.toNat))) + ((A 0 ((r_10 + x4).toNat)) * (A 0 ((r_11 + x7).toNat))) → hz_rL x5_12 ∧ (0 ≤ x8_9 ∧ x8_9 < 553480) ∧ ∀ A_13 : Nat → Nat → Int, A_13 = hz_s A 0 x8_9 (x5_12.tmod 16777216) → hz_rL x5_12 ∧ ∀ x5_14 : Int, x5_14 = x5_12.tdiv 16777216 → ∀ x7_15 : Int, x7_15 = x7 + 1 → P72 A_13 x5_14 x7_15))))) → P72 A x5 x7) → P72 A x5 x7
noncomputable def wp_bigProduct_55 (z : Nat → Int) (A : Nat → Nat → Int) (y1 : Int) (y2 : Int) (y3 : Int) (x4 : Int) (Q : (Nat → Nat → Int) → Prop) : Prop := ∀ P55 : (Nat → Nat → Int) → Int → Prop, (∀ (A : Nat → Nat → Int) (x4 : Int), (0 ≤ y2 ∧ y2 < 4250) ∧ hz_rI x4 ∧ hz_rI (A 1 (y2.toNat)) ∧ ((A 1 (y2.toNat) ≤ x4 → (0 ≤ y2 ∧ y2 < 4250) ∧ (0 ≤ y3 ∧ y3 < 4250) ∧ hz_rI (A 2 (y2.toNat)) ∧ hz_rI (A 2 (y3.toNat)) ∧ ((A 2 (y2.toNat) = A 2 (y3.toNat) → wp_bigProduct_217 z A y1 0 y1  Q) ∧ (¬ (A 2 (y2.toNat) = A 2 (y3.toNat)) → wp_bigProduct_217 z A y1 1 y1  Q))) ∧ (¬ (A 1 (y2.toNat) ≤ x4) → wp_bigProduct_72 z A y1 y2 y3 x4 0 0 P55 Q)) → P55 A x4) → P55 A x4
noncomputable def wp_bigProduct_22 (z : Nat → Int) (A : Nat → Nat → Int) (y1 : Int) (y2 : Int) (y3 : Int) (x4 : Int) (Q : (Nat → Nat → Int) → Prop) : Prop := ∀ P22 : (Nat → Nat → Int) → Int → Prop, (∀ (A : Nat → Nat → Int) (x4 : Int), (0 ≤ y1 ∧ y1 < 4250) ∧ hz_rI x4 ∧ hz_rI (A 1 (y1.toNat)) ∧ ((A 1 (y1.toNat) ≤ x4 → wp_bigProduct_55 z A y1 y2 y3 0  Q) ∧ (¬ (A 1 (y1.toNat) ≤ x4) → wp_from z A y1 (fun r_19 => (0 ≤ r_19 + x4 ∧ r_19 + x4 < 553480) ∧ ∀ A_20 : Nat → Nat → Int, A_20 = hz_s A 0 (r_19 + x4) 0 → ∀ x4_21 : Int, x4_21 = x4 + 1 → P22 A_20 x4_21))) → P22 A x4) → P22 A x4
noncomputable def wp_bigProduct (z : Nat → Int) (A : Nat → Nat → Int) (y1 : Int) (y2 : Int) (y3 : Int) (Q : (Nat → Nat → Int) → Prop) : Prop := (0 ≤ y2 ∧ y2 < 4250) ∧ (0 ≤ y3 ∧ y3 < 4250) ∧ (0 ≤ y1 ∧ y1 < 4250) ∧ ∀ A_22 : Nat → Nat → Int, A_22 = hz_s A 1 y1 ((A 1 (y2.toNat)) + (A 1 (y3.toNat))) → wp_bigProduct_22 z A_22 y1 y2 y3 0  Q
set_option maxHeartbeats 4000000 in
set_option maxRecDepth 100000 in
theorem k_bigProduct (l : Launch) (D : va_G) (sz : Nat) (om : Nat) (R : Nat → Nat) (C : Nat → ClassId) (z : Nat → Int) (A : Nat → Nat → Int) (y1 : Int) (y2 : Int) (y3 : Int) (Q : (Nat → Nat → Int) → Prop) (hw : wp_bigProduct z A y1 y2 y3 Q) : Met l yX12_bigProduct wsX12_bigProduct ({ frames := 2, cells := 0, slots := 0, locals := 41 } : Room) (va_Pc [.ref om, .int (hz_i y1), .int (hz_i y2), .int (hz_i y3)] (hm_P D (mw_w om R C z A) (mw_t C) sz)) (va_Qv (S := Int × (Nat → Int) × (Nat → Nat → Int)) (fun u => Q u.2.2) (fun u t => hm_B D (va_A (mw_w om R C z A) sz) (mw_w om R C z u.2.2) (mw_t C) t) (va_A (mw_w om R C z A) sz)) 0 0 (va_A (mw_w om R C z A) sz) := by
  refine Met.ofW (cc := cX12_bigProduct) (maxL := 9) (ret := none) (by decide) rfl ?_
  intro p e s m args below meth c s₁ B hml hv
  obtain ⟨rfl, hsz, hP, hK, hD0, hE⟩ := hv
  have hx := B.exec
  have hb := B.bytes
  have hr := B.returns
  have hts := atoms_spec (ws := wsX12_bigProduct) B.pre
  have hown : s.vm.findClass RX12 = some m.cls := findClass_of_methodNamed B.named
  have hlocks := B.notSynchronized
  have hin12 : ∀ w ∈ u_ws RX12 TX12 58, w ∈ wsX12_bigProduct := fun w h => List.mem_cons_of_mem _ (List.mem_append_right _ (h))
  subst hsz
  have hD := hD0.self (sz := s.heap.size)
  generalize hAe : va_A (mw_w om R C z A) s.heap.size = Ad at hD ⊢
  have hA : ∀ q : Nat, s.heap.size ≤ q → Ad q := fun q h => by rw [← hAe]; exact Or.inr h
  have hS : va_S Ad s.heap s.heap [] := va_S.rf
  have hl := lv_entry ([.ref om, .int (hz_i y1), .int (hz_i y2), .int (hz_i y3)]) (n := 9) (Nat.le_of_ble_eq_true rfl)
  rw [lg_entry_eq]
  generalize (lg_sl ([.ref om, .int (hz_i y1), .int (hz_i y2), .int (hz_i y3)]) ++ List.replicate (9 - (lg_sl ([.ref om, .int (hz_i y1), .int (hz_i y2), .int (hz_i y3)])).length) Slot.unset).toArray = ls at hl ⊢
  have hl : lv_has ls 9 [(0, .ref om), (1, .int (hz_i y1)), (2, .int (hz_i y2)), (3, .int (hz_i y3))] := hl
  refine mw_Q (fun QQ hQQ => ?_)
  have hP0 := hP; have hD0 := hD; have hS0 := hS; have hl0 := hl; have hw0 := hw
  clear hP hD hS hl hw
  have L217 : ∀ (A : Nat → Nat → Int) (t0 : Int) (t1 : Int), wp_bigProduct_217 z A y1 t0 t1  Q → ∀ (H : Heap) (locs : List Loc) (ls : Array Slot), va_P D vwCl (mw_w om R C z A) H → va_D Ad (mw_w om R C z A) → va_S Ad s.heap H locs → lv_has ls 9 [(0, .ref om), (1, .int (hz_i y1))] → W p l e (headSpec wsX12_bigProduct ({ frames := 2, cells := 0, slots := 0, locals := 41 } : Room)).room s m (List.toArray [.ref om, .int (hz_i y1), .int (hz_i y2), .int (hz_i y3)]) below meth c H locs 0 0 QQ (F0 m 217 ls [.int (hz_i t0), .int (hz_i t1), .ref (R 2)]) := by
    intro A t0 t1 hw H locs ls hP hD hS hl
    obtain ⟨h9i, hw⟩ := hw
    obtain ⟨h9z, hw⟩ := hw
    refine mw_zst (k := 2) (n := 4250) (i := t1) (v := t0) hx hb hK hP hD hS 3 2 rfl rfl (mw_a2 om R C z A) h9i (by decide) h9z dX12_bigProduct_217 (fun H locs hP hD hS => ?_)
    obtain ⟨A_1, hA_1⟩ : ∃ y : Nat → Nat → Int, y = hz_s A 2 t1 t0 := ⟨_, rfl⟩
    rw [← hA_1] at hP hD
    have hw := hw A_1 hA_1
    refine lv_aload_n hx hb dX12_bigProduct_218 rfl (lv_at hl 0 rfl) ?_
    refine lv_iload_n hx hb dX12_bigProduct_219 rfl (lv_at hl 1 rfl) ?_
    have hFc := mw_free hD hS hA
    refine va_callv (va_runV (As := [.int (hz_i y1)]) (rest := []) ⟨hx, hb, hml, hown, hts⟩ (k_bigTrim l D _ om R C z A_1 y1 _ hw) (cwV 1 hts gX12_bigProduct_X12_bigTrim rfl rfl rfl (by decide +kernel) ⟨Nat.le_of_ble_eq_true rfl, Nat.le_of_ble_eq_true rfl⟩) ⟨hm_blind, va_recv hK hP (ci := 12) (q0 := 0) rfl rfl, hm_pre hP hK hD hE⟩ rfl rfl hl.1 rfl (lv_room (Nat.le_of_ble_eq_true rfl)) dX12_bigProduct_220 ⟨Nat.le_of_ble_eq_true rfl, Nat.le_of_ble_eq_true rfl⟩) hS (fun q _ h => hFc q h) hFc (fun u t H1 locs ht hvm hw hB hz1 hk1 hS => ?_)
    obtain ⟨r_2, _, A_3⟩ := u
    obtain ⟨hP, hK1, hD1⟩ := hB
    rw [ht] at hP
    have hD := hD1.weaken (fun k q _ h => hFc q.1 h)
    have hP : va_P D vwCl (mw_w om R C z A_3) H1 := hP
    have hD : va_D Ad (mw_w om R C z A_3) := hD
    generalize H1 = H at hP hS ⊢
    refine W.eq (g2 := F0 m 223 ls []) rfl ?_
    subst hQQ
    subst hAe
    exact W.vret hx hb hr (fun t ht hW => ⟨⟨(0, z, A_3), rfl, hw, by rw [ht]; exact hP, va_K.moved hW.alike hK, hD⟩, hS.F ht⟩) hS.2.2 dX12_bigProduct_223
  have L55 : ∀ (A : Nat → Nat → Int) (x4 : Int), wp_bigProduct_55 z A y1 y2 y3 x4  Q → ∀ (H : Heap) (locs : List Loc) (ls : Array Slot), va_P D vwCl (mw_w om R C z A) H → va_D Ad (mw_w om R C z A) → va_S Ad s.heap H locs → lv_has ls 9 [(0, .ref om), (1, .int (hz_i y1)), (2, .int (hz_i y2)), (3, .int (hz_i y3)), (4, .int (hz_i x4))] → W p l e (headSpec wsX12_bigProduct ({ frames := 2, cells := 0, slots := 0, locals := 41 } : Room)).room s m (List.toArray [.ref om, .int (hz_i y1), .int (hz_i y2), .int (hz_i y3)]) below meth c H locs 0 0 QQ (F0 m 55 ls []) := by
    intro A x4 hw
    obtain ⟨P55, hP55⟩ : ∃ P : (Nat → Nat → Int) → Int → Prop, ∀ (A : Nat → Nat → Int) (x4 : Int), P A x4 ↔ (∀ (H : Heap) (locs : List Loc) (ls : Array Slot), va_P D vwCl (mw_w om R C z A) H → va_D Ad (mw_w om R C z A) → va_S Ad s.heap H locs → lv_has ls 9 [(0, .ref om), (1, .int (hz_i y1)), (2, .int (hz_i y2)), (3, .int (hz_i y3)), (4, .int (hz_i x4))] → W p l e (headSpec wsX12_bigProduct ({ frames := 2, cells := 0, slots := 0, locals := 41 } : Room)).room s m (List.toArray [.ref om, .int (hz_i y1), .int (hz_i y2), .int (hz_i y3)]) below meth c H locs 0 0 QQ (F0 m 55 ls [])) := ⟨fun (A : Nat → Nat → Int) (x4 : Int) => ∀ (H : Heap) (locs : List Loc) (ls : Array Slot), va_P D vwCl (mw_w om R C z A) H → va_D Ad (mw_w om R C z A) → va_S Ad s.heap H locs → lv_has ls 9 [(0, .ref om), (1, .int (hz_i y1)), (2, .int (hz_i y2)), (3, .int (hz_i y3)), (4, .int (hz_i x4))] → W p l e (headSpec wsX12_bigProduct ({ frames := 2, cells := 0, slots := 0, locals := 41 } : Room)).room s m (List.toArray [.ref om, .int (hz_i y1), .int (hz_i y2), .int (hz_i y3)]) below meth c H locs 0 0 QQ (F0 m 55 ls []), fun _ _ => Iff.rfl⟩
    refine (hP55 A x4).mp (hw P55 ?_)
    intro A x4 hw
    refine (hP55 A x4).mpr ?_
    intro H locs ls hP hD hS hl
    have L72 : ∀ (A : Nat → Nat → Int) (x4 : Int) (x5 : Int) (x7 : Int), wp_bigProduct_72 z A y1 y2 y3 x4 x5 x7 P55 Q → ∀ (H : Heap) (locs : List Loc) (ls : Array Slot), va_P D vwCl (mw_w om R C z A) H → va_D Ad (mw_w om R C z A) → va_S Ad s.heap H locs → lv_has ls 9 [(0, .ref om), (1, .int (hz_i y1)), (2, .int (hz_i y2)), (3, .int (hz_i y3)), (4, .int (hz_i x4)), (5, .long (hz_l x5)), (7, .int (hz_i x7))] → W p l e (headSpec wsX12_bigProduct ({ frames := 2, cells := 0, slots := 0, locals := 41 } : Room)).room s m (List.toArray [.ref om, .int (hz_i y1), .int (hz_i y2), .int (hz_i y3)]) below meth c H locs 0 0 QQ (F0 m 72 ls []) := by
      intro A x4 x5 x7 hw
      obtain ⟨P72, hP72⟩ : ∃ P : (Nat → Nat → Int) → Int → Int → Prop, ∀ (A : Nat → Nat → Int) (x5 : Int) (x7 : Int), P A x5 x7 ↔ (∀ (H : Heap) (locs : List Loc) (ls : Array Slot), va_P D vwCl (mw_w om R C z A) H → va_D Ad (mw_w om R C z A) → va_S Ad s.heap H locs → lv_has ls 9 [(0, .ref om), (1, .int (hz_i y1)), (2, .int (hz_i y2)), (3, .int (hz_i y3)), (4, .int (hz_i x4)), (5, .long (hz_l x5)), (7, .int (hz_i x7))] → W p l e (headSpec wsX12_bigProduct ({ frames := 2, cells := 0, slots := 0, locals := 41 } : Room)).room s m (List.toArray [.ref om, .int (hz_i y1), .int (hz_i y2), .int (hz_i y3)]) below meth c H locs 0 0 QQ (F0 m 72 ls [])) := ⟨fun (A : Nat → Nat → Int) (x5 : Int) (x7 : Int) => ∀ (H : Heap) (locs : List Loc) (ls : Array Slot), va_P D vwCl (mw_w om R C z A) H → va_D Ad (mw_w om R C z A) → va_S Ad s.heap H locs → lv_has ls 9 [(0, .ref om), (1, .int (hz_i y1)), (2, .int (hz_i y2)), (3, .int (hz_i y3)), (4, .int (hz_i x4)), (5, .long (hz_l x5)), (7, .int (hz_i x7))] → W p l e (headSpec wsX12_bigProduct ({ frames := 2, cells := 0, slots := 0, locals := 41 } : Room)).room s m (List.toArray [.ref om, .int (hz_i y1), .int (hz_i y2), .int (hz_i y3)]) below meth c H locs 0 0 QQ (F0 m 72 ls []), fun _ _ _ => Iff.rfl⟩
      refine (hP72 A x5 x7).mp (hw P72 ?_)
      intro A x5 x7 hw
      refine (hP72 A x5 x7).mpr ?_
      intro H locs ls hP hD hS hl
      refine lv_iload hx hb dX12_bigProduct_72 (lv_at hl 6 rfl) ?_
      refine lv_aload_n hx hb dX12_bigProduct_74 rfl (lv_at hl 0 rfl) ?_
      refine mw_get (v := .ref (R 1)) hx hb hts hin12 hown hK hP 1 (by decide) (hts (.fieldLink RX12 18 "HiddenMovesModel" "lengths" "[I") (List.mem_cons_of_mem _ (List.mem_append_left _ (List.mem_of_getElem? (i := 0) rfl)))) (fun _ h9 => h9) rfl dX12_bigProduct_75 ?_
      refine lv_iload_n hx hb dX12_bigProduct_78 rfl (lv_at hl 3 rfl) ?_
      obtain ⟨h9i, hw⟩ := hw
      refine mw_ild (k := 1) (n := 4250) (i := y3) hx hb hK hP 2 1 rfl rfl h9i (by decide) dX12_bigProduct_79 ?_
      obtain ⟨h9a, hw⟩ := hw
      obtain ⟨h9b, hw⟩ := hw
      refine hz_icmp_ge (tgt := 164) hx hb dX12_bigProduct_80 (by decide) h9a h9b (fun c_4 => ?_) (fun c_4 => ?_)
      · have hw := hw.1 c_4
        refine lv_aload_n hx hb dX12_bigProduct_164 rfl (lv_at hl 0 rfl) ?_
        refine mw_get (v := .ref (R 0)) hx hb hts hin12 hown hK hP 0 (by decide) (hts (.fieldLink RX12 8 "HiddenMovesModel" "parts" "[I") (List.mem_cons_of_mem _ (List.mem_append_left _ (List.mem_of_getElem? (i := 1) rfl)))) (fun _ h9 => h9) rfl dX12_bigProduct_165 ?_
        refine lv_iload_n hx hb dX12_bigProduct_168 rfl (lv_at hl 1 rfl) ?_
        have hFc := mw_free hD hS hA
        refine va_calli (va_runS (As := [.int (hz_i y1)]) (rest := [.ref (R 0)]) ⟨hx, hb, hml, hown, hts⟩ (k_from l D _ om R C z A y1 _ hw) (va_cwS 1 hts gX12_bigProduct_X12_from rfl rfl rfl (by decide +kernel) ⟨Nat.le_of_ble_eq_true rfl, Nat.le_of_ble_eq_true rfl⟩) ⟨hm_blind, hm_pre hP hK hD hE⟩ rfl rfl hl.1 rfl (lv_room (Nat.le_of_ble_eq_true rfl)) dX12_bigProduct_169 ⟨Nat.le_of_ble_eq_true rfl, Nat.le_of_ble_eq_true rfl⟩) hS (fun q _ h => hFc q h) hFc (fun rv u t H1 locs ht hvm hw hB hz1 hk1 hS => ?_)
        obtain ⟨r_5, _, _⟩ := u
        obtain ⟨hP, hK1, hD1⟩ := hB
        rw [ht] at hP
        obtain ⟨hrv, hw⟩ := hw
        subst hrv
        have hD := hD1.weaken (fun k q _ h => hFc q.1 h)
        have hP : va_P D vwCl (mw_w om R C z A) H1 := hP
        have hD : va_D Ad (mw_w om R C z A) := hD
        generalize H1 = H at hP hS ⊢
        refine W.eq (g2 := F0 m 172 ls [.int (hz_i r_5), .ref (R 0)]) rfl ?_
        refine lv_iload hx hb dX12_bigProduct_172 (lv_at hl 4 rfl) ?_
        refine hz_iadd hx hb dX12_bigProduct_174 ?_
        refine lv_aload_n hx hb dX12_bigProduct_175 rfl (lv_at hl 0 rfl) ?_
        refine mw_get (v := .ref (R 1)) hx hb hts hin12 hown hK hP 1 (by decide) (hts (.fieldLink RX12 18 "HiddenMovesModel" "lengths" "[I") (List.mem_cons_of_mem _ (List.mem_append_left _ (List.mem_of_getElem? (i := 0) rfl)))) (fun _ h9 => h9) rfl dX12_bigProduct_176 ?_
        refine lv_iload_n hx hb dX12_bigProduct_179 rfl (lv_at hl 3 rfl) ?_
        obtain ⟨h9i, hw⟩ := hw
        refine mw_ild (k := 1) (n := 4250) (i := y3) hx hb hK hP 2 1 rfl rfl h9i (by decide) dX12_bigProduct_180 ?_
        refine hz_iadd hx hb dX12_bigProduct_181 ?_
        refine lv_lload hx hb dX12_bigProduct_182 (lv_at hl 5 rfl) ?_
        refine hz_wl2i hx hb dX12_bigProduct_184 ?_
        obtain ⟨h9i, hw⟩ := hw
        refine mw_ist (k := 0) (n := 553480) (i := (r_5 + x4) + (A 1 (y3.toNat))) (v := x5) hx hb hK hP hD hS 1 0 rfl rfl (mw_a0 om R C z A) h9i (by decide) dX12_bigProduct_185 (fun H locs hP hD hS => ?_)
        obtain ⟨A_6, hA_6⟩ : ∃ y : Nat → Nat → Int, y = hz_s A 0 ((r_5 + x4) + (A 1 (y3.toNat))) x5 := ⟨_, rfl⟩
        rw [← hA_6] at hP hD
        have hw := hw A_6 hA_6
        obtain ⟨x4_7, hx4_7⟩ : ∃ y : Int, y = x4 + 1 := ⟨_, rfl⟩
        have hw := hw x4_7 hx4_7
        refine lv_iinc (v := hz_i x4_7) (lv' := [(4, .int (hz_i x4_7)), (0, .ref om), (1, .int (hz_i y1)), (2, .int (hz_i y2)), (3, .int (hz_i y3)), (5, .long (hz_l x5)), (7, .int (hz_i x7))]) hx hb dX12_bigProduct_186 hl (k := 4) rfl (by rw [hx4_7]; exact hz_i_add _ _) (by decide) rfl (fun ls hl => ?_)
        refine lv_goto (tgt := 55) hx hb dX12_bigProduct_189 (by decide) ?_
        exact (hP55 A_6 x4_7).mp hw H locs ls hP hD hS (lv_sub hl [1, 2, 3, 4, 0] rfl)
      · have hw := hw.2 c_4
        refine lv_iload_n hx hb dX12_bigProduct_83 rfl (lv_at hl 1 rfl) ?_
        have hFc := mw_free hD hS hA
        refine va_calli (va_runS (As := [.int (hz_i y1)]) (rest := []) ⟨hx, hb, hml, hown, hts⟩ (k_from l D _ om R C z A y1 _ hw) (va_cwS 1 hts gX12_bigProduct_X12_from rfl rfl rfl (by decide +kernel) ⟨Nat.le_of_ble_eq_true rfl, Nat.le_of_ble_eq_true rfl⟩) ⟨hm_blind, hm_pre hP hK hD hE⟩ rfl rfl hl.1 rfl (lv_room (Nat.le_of_ble_eq_true rfl)) dX12_bigProduct_84 ⟨Nat.le_of_ble_eq_true rfl, Nat.le_of_ble_eq_true rfl⟩) hS (fun q _ h => hFc q h) hFc (fun rv u t H1 locs ht hvm hw hB hz1 hk1 hS => ?_)
        obtain ⟨r_8, _, _⟩ := u
        obtain ⟨hP, hK1, hD1⟩ := hB
        rw [ht] at hP
        obtain ⟨hrv, hw⟩ := hw
        subst hrv
        have hD := hD1.weaken (fun k q _ h => hFc q.1 h)
        have hP : va_P D vwCl (mw_w om R C z A) H1 := hP
        have hD : va_D Ad (mw_w om R C z A) := hD
        generalize H1 = H at hP hS ⊢
        refine W.eq (g2 := F0 m 87 ls [.int (hz_i r_8)]) rfl ?_
        refine lv_iload hx hb dX12_bigProduct_87 (lv_at hl 4 rfl) ?_
        refine hz_iadd hx hb dX12_bigProduct_89 ?_
        refine lv_iload hx hb dX12_bigProduct_90 (lv_at hl 6 rfl) ?_
        refine hz_iadd hx hb dX12_bigProduct_92 ?_
        refine hz_topi (fun x8_9 hx8_9 => ?_)
        have hw := hw x8_9 hx8_9
        refine lv_istore (lv' := [(8, .int (hz_i x8_9)), (0, .ref om), (1, .int (hz_i y1)), (2, .int (hz_i y2)), (3, .int (hz_i y3)), (4, .int (hz_i x4)), (5, .long (hz_l x5)), (7, .int (hz_i x7))]) hx hb dX12_bigProduct_93 hl (by decide) rfl (fun ls hl => ?_)
        refine lv_lload hx hb dX12_bigProduct_95 (lv_at hl 6 rfl) ?_
        refine lv_aload_n hx hb dX12_bigProduct_97 rfl (lv_at hl 1 rfl) ?_
        refine mw_get (v := .ref (R 0)) hx hb hts hin12 hown hK hP 0 (by decide) (hts (.fieldLink RX12 8 "HiddenMovesModel" "parts" "[I") (List.mem_cons_of_mem _ (List.mem_append_left _ (List.mem_of_getElem? (i := 1) rfl)))) (fun _ h9 => h9) rfl dX12_bigProduct_98 ?_
        refine lv_iload hx hb dX12_bigProduct_101 (lv_at hl 0 rfl) ?_
        obtain ⟨h9i, hw⟩ := hw
        refine mw_ild (k := 0) (n := 553480) (i := x8_9) hx hb hK hP 1 0 rfl rfl h9i (by decide) dX12_bigProduct_103 ?_
        obtain ⟨h9a, hw⟩ := hw
        refine hz_wi2l hx hb dX12_bigProduct_104 h9a ?_
        refine hz_ladd hx hb dX12_bigProduct_105 ?_
        refine lv_aload_n hx hb dX12_bigProduct_106 rfl (lv_at hl 1 rfl) ?_
        refine mw_get (v := .ref (R 0)) hx hb hts hin12 hown hK hP 0 (by decide) (hts (.fieldLink RX12 8 "HiddenMovesModel" "parts" "[I") (List.mem_cons_of_mem _ (List.mem_append_left _ (List.mem_of_getElem? (i := 1) rfl)))) (fun _ h9 => h9) rfl dX12_bigProduct_107 ?_
        refine lv_iload_n hx hb dX12_bigProduct_110 rfl (lv_at hl 3 rfl) ?_
        have hFc := mw_free hD hS hA
        refine va_calli (va_runS (As := [.int (hz_i y2)]) (rest := [.ref (R 0), .long (hz_l (x5 + (A 0 (x8_9.toNat))))]) ⟨hx, hb, hml, hown, hts⟩ (k_from l D _ om R C z A y2 _ hw) (va_cwS 1 hts gX12_bigProduct_X12_from rfl rfl rfl (by decide +kernel) ⟨Nat.le_of_ble_eq_true rfl, Nat.le_of_ble_eq_true rfl⟩) ⟨hm_blind, hm_pre hP hK hD hE⟩ rfl rfl hl.1 rfl (lv_room (Nat.le_of_ble_eq_true rfl)) dX12_bigProduct_111 ⟨Nat.le_of_ble_eq_true rfl, Nat.le_of_ble_eq_true rfl⟩) hS (fun q _ h => hFc q h) hFc (fun rv u t H1 locs ht hvm hw hB hz1 hk1 hS => ?_)
        obtain ⟨r_10, _, _⟩ := u
        obtain ⟨hP, hK1, hD1⟩ := hB
        rw [ht] at hP
        obtain ⟨hrv, hw⟩ := hw
        subst hrv
        have hD := hD1.weaken (fun k q _ h => hFc q.1 h)
        have hP : va_P D vwCl (mw_w om R C z A) H1 := hP
        have hD : va_D Ad (mw_w om R C z A) := hD
        generalize H1 = H at hP hS ⊢
        refine W.eq (g2 := F0 m 114 ls [.int (hz_i r_10), .ref (R 0), .long (hz_l (x5 + (A 0 (x8_9.toNat))))]) rfl ?_
        refine lv_iload hx hb dX12_bigProduct_114 (lv_at hl 5 rfl) ?_
        refine hz_iadd hx hb dX12_bigProduct_116 ?_
        obtain ⟨h9i, hw⟩ := hw
        refine mw_ild (k := 0) (n := 553480) (i := r_10 + x4) hx hb hK hP 1 0 rfl rfl h9i (by decide) dX12_bigProduct_117 ?_
        obtain ⟨h9a, hw⟩ := hw
        refine hz_wi2l hx hb dX12_bigProduct_118 h9a ?_
        refine lv_aload_n hx hb dX12_bigProduct_119 rfl (lv_at hl 1 rfl) ?_
        refine mw_get (v := .ref (R 0)) hx hb hts hin12 hown hK hP 0 (by decide) (hts (.fieldLink RX12 8 "HiddenMovesModel" "parts" "[I") (List.mem_cons_of_mem _ (List.mem_append_left _ (List.mem_of_getElem? (i := 1) rfl)))) (fun _ h9 => h9) rfl dX12_bigProduct_120 ?_
        refine lv_iload_n hx hb dX12_bigProduct_123 rfl (lv_at hl 4 rfl) ?_
        have hFc := mw_free hD hS hA
        refine va_calli (va_runS (As := [.int (hz_i y3)]) (rest := [.ref (R 0), .long (hz_l (A 0 ((r_10 + x4).toNat))), .long (hz_l (x5 + (A 0 (x8_9.toNat))))]) ⟨hx, hb, hml, hown, hts⟩ (k_from l D _ om R C z A y3 _ hw) (va_cwS 1 hts gX12_bigProduct_X12_from rfl rfl rfl (by decide +kernel) ⟨Nat.le_of_ble_eq_true rfl, Nat.le_of_ble_eq_true rfl⟩) ⟨hm_blind, hm_pre hP hK hD hE⟩ rfl rfl hl.1 rfl (lv_room (Nat.le_of_ble_eq_true rfl)) dX12_bigProduct_124 ⟨Nat.le_of_ble_eq_true rfl, Nat.le_of_ble_eq_true rfl⟩) hS (fun q _ h => hFc q h) hFc (fun rv u t H1 locs ht hvm hw hB hz1 hk1 hS => ?_)
        obtain ⟨r_11, _, _⟩ := u
        obtain ⟨hP, hK1, hD1⟩ := hB
        rw [ht] at hP
        obtain ⟨hrv, hw⟩ := hw
        subst hrv
        have hD := hD1.weaken (fun k q _ h => hFc q.1 h)
        have hP : va_P D vwCl (mw_w om R C z A) H1 := hP
        have hD : va_D Ad (mw_w om R C z A) := hD
        generalize H1 = H at hP hS ⊢
        refine W.eq (g2 := F0 m 127 ls [.int (hz_i r_11), .ref (R 0), .long (hz_l (A 0 ((r_10 + x4).toNat))), .long (hz_l (x5 + (A 0 (x8_9.toNat))))]) rfl ?_
        refine lv_iload hx hb dX12_bigProduct_127 (lv_at hl 7 rfl) ?_
        refine hz_iadd hx hb dX12_bigProduct_129 ?_
        obtain ⟨h9i, hw⟩ := hw
        refine mw_ild (k := 0) (n := 553480) (i := r_11 + x7) hx hb hK hP 1 0 rfl rfl h9i (by decide) dX12_bigProduct_130 ?_
        obtain ⟨h9a, hw⟩ := hw
        refine hz_wi2l hx hb dX12_bigProduct_131 h9a ?_
        refine hz_lmul hx hb dX12_bigProduct_132 ?_
        refine hz_ladd hx hb dX12_bigProduct_133 ?_
        refine hz_topl (fun x5_12 hx5_12 => ?_)
        have hw := hw x5_12 hx5_12
        refine lv_lstore (lv' := [(5, .long (hz_l x5_12)), (8, .int (hz_i x8_9)), (0, .ref om), (1, .int (hz_i y1)), (2, .int (hz_i y2)), (3, .int (hz_i y3)), (4, .int (hz_i x4)), (7, .int (hz_i x7))]) hx hb dX12_bigProduct_134 hl (by decide) rfl (fun ls hl => ?_)
        refine lv_aload_n hx hb dX12_bigProduct_136 rfl (lv_at hl 2 rfl) ?_
        refine mw_get (v := .ref (R 0)) hx hb hts hin12 hown hK hP 0 (by decide) (hts (.fieldLink RX12 8 "HiddenMovesModel" "parts" "[I") (List.mem_cons_of_mem _ (List.mem_append_left _ (List.mem_of_getElem? (i := 1) rfl)))) (fun _ h9 => h9) rfl dX12_bigProduct_137 ?_
        refine lv_iload hx hb dX12_bigProduct_140 (lv_at hl 1 rfl) ?_
        refine lv_lload hx hb dX12_bigProduct_142 (lv_at hl 0 rfl) ?_
        refine lv_ldc2 hx hb hown (hts (.constantLong RX12 44 (16777216)) (List.mem_cons_of_mem _ (List.mem_append_left _ (List.mem_of_getElem? (i := 2) rfl)))) dX12_bigProduct_144 ?_
        refine hz_asl (b := 16777216) (by decide +kernel) ?_
        obtain ⟨h9a, hw⟩ := hw
        refine hz_lrem hx hb dX12_bigProduct_147 (by decide) h9a ⟨by decide, by decide⟩ ?_
        refine hz_wl2i hx hb dX12_bigProduct_148 ?_
        obtain ⟨h9i, hw⟩ := hw
        refine mw_ist (k := 0) (n := 553480) (i := x8_9) (v := x5_12.tmod 16777216) hx hb hK hP hD hS 1 0 rfl rfl (mw_a0 om R C z A) h9i (by decide) dX12_bigProduct_149 (fun H locs hP hD hS => ?_)
        obtain ⟨A_13, hA_13⟩ : ∃ y : Nat → Nat → Int, y = hz_s A 0 x8_9 (x5_12.tmod 16777216) := ⟨_, rfl⟩
        rw [← hA_13] at hP hD
        have hw := hw A_13 hA_13
        refine lv_lload hx hb dX12_bigProduct_150 (lv_at hl 0 rfl) ?_
        refine lv_ldc2 hx hb hown (hts (.constantLong RX12 44 (16777216)) (List.mem_cons_of_mem _ (List.mem_append_left _ (List.mem_of_getElem? (i := 2) rfl)))) dX12_bigProduct_152 ?_
        refine hz_asl (b := 16777216) (by decide +kernel) ?_
        obtain ⟨h9a, hw⟩ := hw
        refine hz_ldiv hx hb dX12_bigProduct_155 (by decide) h9a ⟨by decide, by decide⟩ ?_
        refine hz_topl (fun x5_14 hx5_14 => ?_)
        have hw := hw x5_14 hx5_14
        refine lv_lstore (lv' := [(5, .long (hz_l x5_14)), (8, .int (hz_i x8_9)), (0, .ref om), (1, .int (hz_i y1)), (2, .int (hz_i y2)), (3, .int (hz_i y3)), (4, .int (hz_i x4)), (7, .int (hz_i x7))]) hx hb dX12_bigProduct_156 hl (by decide) rfl (fun ls hl => ?_)
        obtain ⟨x7_15, hx7_15⟩ : ∃ y : Int, y = x7 + 1 := ⟨_, rfl⟩
        have hw := hw x7_15 hx7_15
        refine lv_iinc (v := hz_i x7_15) (lv' := [(7, .int (hz_i x7_15)), (5, .long (hz_l x5_14)), (8, .int (hz_i x8_9)), (0, .ref om), (1, .int (hz_i y1)), (2, .int (hz_i y2)), (3, .int (hz_i y3)), (4, .int (hz_i x4))]) hx hb dX12_bigProduct_158 hl (k := 7) rfl (by rw [hx7_15]; exact hz_i_add _ _) (by decide) rfl (fun ls hl => ?_)
        refine lv_goto (tgt := 72) hx hb dX12_bigProduct_161 (by decide) ?_
        exact (hP72 A_13 x5_14 x7_15).mp hw H locs ls hP hD hS (lv_sub hl [3, 4, 5, 6, 7, 1, 0] rfl)
    refine lv_iload hx hb dX12_bigProduct_55 (lv_at hl 4 rfl) ?_
    refine lv_aload_n hx hb dX12_bigProduct_57 rfl (lv_at hl 0 rfl) ?_
    refine mw_get (v := .ref (R 1)) hx hb hts hin12 hown hK hP 1 (by decide) (hts (.fieldLink RX12 18 "HiddenMovesModel" "lengths" "[I") (List.mem_cons_of_mem _ (List.mem_append_left _ (List.mem_of_getElem? (i := 0) rfl)))) (fun _ h9 => h9) rfl dX12_bigProduct_58 ?_
    refine lv_iload_n hx hb dX12_bigProduct_61 rfl (lv_at hl 2 rfl) ?_
    obtain ⟨h9i, hw⟩ := hw
    refine mw_ild (k := 1) (n := 4250) (i := y2) hx hb hK hP 2 1 rfl rfl h9i (by decide) dX12_bigProduct_62 ?_
    obtain ⟨h9a, hw⟩ := hw
    obtain ⟨h9b, hw⟩ := hw
    refine hz_icmp_ge (tgt := 192) hx hb dX12_bigProduct_63 (by decide) h9a h9b (fun c_16 => ?_) (fun c_16 => ?_)
    · have hw := hw.1 c_16
      refine lv_aload_n hx hb dX12_bigProduct_192 rfl (lv_at hl 0 rfl) ?_
      refine mw_get (v := .ref (R 2)) hx hb hts hin12 hown hK hP 2 (by decide) (hts (.fieldLink RX12 4 "HiddenMovesModel" "minus" "[Z") (List.mem_cons_of_mem _ (List.mem_append_left _ (List.mem_of_getElem? (i := 3) rfl)))) (fun _ h9 => h9) rfl dX12_bigProduct_193 ?_
      refine lv_iload_n hx hb dX12_bigProduct_196 rfl (lv_at hl 1 rfl) ?_
      refine lv_aload_n hx hb dX12_bigProduct_197 rfl (lv_at hl 0 rfl) ?_
      refine mw_get (v := .ref (R 2)) hx hb hts hin12 hown hK hP 2 (by decide) (hts (.fieldLink RX12 4 "HiddenMovesModel" "minus" "[Z") (List.mem_cons_of_mem _ (List.mem_append_left _ (List.mem_of_getElem? (i := 3) rfl)))) (fun _ h9 => h9) rfl dX12_bigProduct_198 ?_
      refine lv_iload_n hx hb dX12_bigProduct_201 rfl (lv_at hl 2 rfl) ?_
      obtain ⟨h9i, hw⟩ := hw
      refine mw_zld (k := 2) (n := 4250) (i := y2) hx hb hK hP 3 2 rfl rfl h9i (by decide) dX12_bigProduct_202 ?_
      refine lv_aload_n hx hb dX12_bigProduct_203 rfl (lv_at hl 0 rfl) ?_
      refine mw_get (v := .ref (R 2)) hx hb hts hin12 hown hK hP 2 (by decide) (hts (.fieldLink RX12 4 "HiddenMovesModel" "minus" "[Z") (List.mem_cons_of_mem _ (List.mem_append_left _ (List.mem_of_getElem? (i := 3) rfl)))) (fun _ h9 => h9) rfl dX12_bigProduct_204 ?_
      refine lv_iload_n hx hb dX12_bigProduct_207 rfl (lv_at hl 3 rfl) ?_
      obtain ⟨h9i, hw⟩ := hw
      refine mw_zld (k := 2) (n := 4250) (i := y3) hx hb hK hP 3 2 rfl rfl h9i (by decide) dX12_bigProduct_208 ?_
      obtain ⟨h9a, hw⟩ := hw
      obtain ⟨h9b, hw⟩ := hw
      refine hz_icmp_eq (tgt := 216) hx hb dX12_bigProduct_209 (by decide) h9a h9b (fun c_17 => ?_) (fun c_17 => ?_)
      · have hw := hw.1 c_17
        refine lv_iconst (v := hz_i 0) hx hb dX12_bigProduct_216 (by decide +kernel) ?_
        exact L217 A 0 y1 hw H locs ls hP hD hS (lv_sub hl [0, 1] rfl)
      · have hw := hw.2 c_17
        refine lv_iconst (v := hz_i 1) hx hb dX12_bigProduct_212 (by decide +kernel) ?_
        refine lv_goto (tgt := 217) hx hb dX12_bigProduct_213 (by decide) ?_
        exact L217 A 1 y1 hw H locs ls hP hD hS (lv_sub hl [0, 1] rfl)
    · have hw := hw.2 c_16
      refine lv_lconst (v := hz_l 0) hx hb dX12_bigProduct_66 (by decide +kernel) ?_
      refine lv_lstore (lv' := [(5, .long (hz_l 0)), (0, .ref om), (1, .int (hz_i y1)), (2, .int (hz_i y2)), (3, .int (hz_i y3)), (4, .int (hz_i x4))]) hx hb dX12_bigProduct_67 hl (by decide) rfl (fun ls hl => ?_)
      refine lv_iconst (v := hz_i 0) hx hb dX12_bigProduct_69 (by decide +kernel) ?_
      refine lv_istore (lv' := [(7, .int (hz_i 0)), (5, .long (hz_l 0)), (0, .ref om), (1, .int (hz_i y1)), (2, .int (hz_i y2)), (3, .int (hz_i y3)), (4, .int (hz_i x4))]) hx hb dX12_bigProduct_70 hl (by decide) rfl (fun ls hl => ?_)
      exact L72 A x4 0 0 hw H locs ls hP hD hS (lv_sub hl [2, 3, 4, 5, 6, 1, 0] rfl)
  have L22 : ∀ (A : Nat → Nat → Int) (x4 : Int), wp_bigProduct_22 z A y1 y2 y3 x4  Q → ∀ (H : Heap) (locs : List Loc) (ls : Array Slot), va_P D vwCl (mw_w om R C z A) H → va_D Ad (mw_w om R C z A) → va_S Ad s.heap H locs → lv_has ls 9 [(0, .ref om), (1, .int (hz_i y1)), (2, .int (hz_i y2)), (3, .int (hz_i y3)), (4, .int (hz_i x4))] → W p l e (headSpec wsX12_bigProduct ({ frames := 2, cells := 0, slots := 0, locals := 41 } : Room)).room s m (List.toArray [.ref om, .int (hz_i y1), .int (hz_i y2), .int (hz_i y3)]) below meth c H locs 0 0 QQ (F0 m 22 ls []) := by
    intro A x4 hw
    obtain ⟨P22, hP22⟩ : ∃ P : (Nat → Nat → Int) → Int → Prop, ∀ (A : Nat → Nat → Int) (x4 : Int), P A x4 ↔ (∀ (H : Heap) (locs : List Loc) (ls : Array Slot), va_P D vwCl (mw_w om R C z A) H → va_D Ad (mw_w om R C z A) → va_S Ad s.heap H locs → lv_has ls 9 [(0, .ref om), (1, .int (hz_i y1)), (2, .int (hz_i y2)), (3, .int (hz_i y3)), (4, .int (hz_i x4))] → W p l e (headSpec wsX12_bigProduct ({ frames := 2, cells := 0, slots := 0, locals := 41 } : Room)).room s m (List.toArray [.ref om, .int (hz_i y1), .int (hz_i y2), .int (hz_i y3)]) below meth c H locs 0 0 QQ (F0 m 22 ls [])) := ⟨fun (A : Nat → Nat → Int) (x4 : Int) => ∀ (H : Heap) (locs : List Loc) (ls : Array Slot), va_P D vwCl (mw_w om R C z A) H → va_D Ad (mw_w om R C z A) → va_S Ad s.heap H locs → lv_has ls 9 [(0, .ref om), (1, .int (hz_i y1)), (2, .int (hz_i y2)), (3, .int (hz_i y3)), (4, .int (hz_i x4))] → W p l e (headSpec wsX12_bigProduct ({ frames := 2, cells := 0, slots := 0, locals := 41 } : Room)).room s m (List.toArray [.ref om, .int (hz_i y1), .int (hz_i y2), .int (hz_i y3)]) below meth c H locs 0 0 QQ (F0 m 22 ls []), fun _ _ => Iff.rfl⟩
    refine (hP22 A x4).mp (hw P22 ?_)
    intro A x4 hw
    refine (hP22 A x4).mpr ?_
    intro H locs ls hP hD hS hl
    refine lv_iload hx hb dX12_bigProduct_22 (lv_at hl 4 rfl) ?_
    refine lv_aload_n hx hb dX12_bigProduct_24 rfl (lv_at hl 0 rfl) ?_
    refine mw_get (v := .ref (R 1)) hx hb hts hin12 hown hK hP 1 (by decide) (hts (.fieldLink RX12 18 "HiddenMovesModel" "lengths" "[I") (List.mem_cons_of_mem _ (List.mem_append_left _ (List.mem_of_getElem? (i := 0) rfl)))) (fun _ h9 => h9) rfl dX12_bigProduct_25 ?_
    refine lv_iload_n hx hb dX12_bigProduct_28 rfl (lv_at hl 1 rfl) ?_
    obtain ⟨h9i, hw⟩ := hw
    refine mw_ild (k := 1) (n := 4250) (i := y1) hx hb hK hP 2 1 rfl rfl h9i (by decide) dX12_bigProduct_29 ?_
    obtain ⟨h9a, hw⟩ := hw
    obtain ⟨h9b, hw⟩ := hw
    refine hz_icmp_ge (tgt := 52) hx hb dX12_bigProduct_30 (by decide) h9a h9b (fun c_18 => ?_) (fun c_18 => ?_)
    · have hw := hw.1 c_18
      refine lv_iconst (v := hz_i 0) hx hb dX12_bigProduct_52 (by decide +kernel) ?_
      refine lv_istore (lv' := [(4, .int (hz_i 0)), (0, .ref om), (1, .int (hz_i y1)), (2, .int (hz_i y2)), (3, .int (hz_i y3))]) hx hb dX12_bigProduct_53 hl (by decide) rfl (fun ls hl => ?_)
      exact L55 A 0 hw H locs ls hP hD hS (lv_sub hl [1, 2, 3, 4, 0] rfl)
    · have hw := hw.2 c_18
      refine lv_aload_n hx hb dX12_bigProduct_33 rfl (lv_at hl 0 rfl) ?_
      refine mw_get (v := .ref (R 0)) hx hb hts hin12 hown hK hP 0 (by decide) (hts (.fieldLink RX12 8 "HiddenMovesModel" "parts" "[I") (List.mem_cons_of_mem _ (List.mem_append_left _ (List.mem_of_getElem? (i := 1) rfl)))) (fun _ h9 => h9) rfl dX12_bigProduct_34 ?_
      refine lv_iload_n hx hb dX12_bigProduct_37 rfl (lv_at hl 1 rfl) ?_
      have hFc := mw_free hD hS hA
      refine va_calli (va_runS (As := [.int (hz_i y1)]) (rest := [.ref (R 0)]) ⟨hx, hb, hml, hown, hts⟩ (k_from l D _ om R C z A y1 _ hw) (va_cwS 1 hts gX12_bigProduct_X12_from rfl rfl rfl (by decide +kernel) ⟨Nat.le_of_ble_eq_true rfl, Nat.le_of_ble_eq_true rfl⟩) ⟨hm_blind, hm_pre hP hK hD hE⟩ rfl rfl hl.1 rfl (lv_room (Nat.le_of_ble_eq_true rfl)) dX12_bigProduct_38 ⟨Nat.le_of_ble_eq_true rfl, Nat.le_of_ble_eq_true rfl⟩) hS (fun q _ h => hFc q h) hFc (fun rv u t H1 locs ht hvm hw hB hz1 hk1 hS => ?_)
      obtain ⟨r_19, _, _⟩ := u
      obtain ⟨hP, hK1, hD1⟩ := hB
      rw [ht] at hP
      obtain ⟨hrv, hw⟩ := hw
      subst hrv
      have hD := hD1.weaken (fun k q _ h => hFc q.1 h)
      have hP : va_P D vwCl (mw_w om R C z A) H1 := hP
      have hD : va_D Ad (mw_w om R C z A) := hD
      generalize H1 = H at hP hS ⊢
      refine W.eq (g2 := F0 m 41 ls [.int (hz_i r_19), .ref (R 0)]) rfl ?_
      refine lv_iload hx hb dX12_bigProduct_41 (lv_at hl 4 rfl) ?_
      refine hz_iadd hx hb dX12_bigProduct_43 ?_
      refine lv_iconst (v := hz_i 0) hx hb dX12_bigProduct_44 (by decide +kernel) ?_
      obtain ⟨h9i, hw⟩ := hw
      refine mw_ist (k := 0) (n := 553480) (i := r_19 + x4) (v := 0) hx hb hK hP hD hS 1 0 rfl rfl (mw_a0 om R C z A) h9i (by decide) dX12_bigProduct_45 (fun H locs hP hD hS => ?_)
      obtain ⟨A_20, hA_20⟩ : ∃ y : Nat → Nat → Int, y = hz_s A 0 (r_19 + x4) 0 := ⟨_, rfl⟩
      rw [← hA_20] at hP hD
      have hw := hw A_20 hA_20
      obtain ⟨x4_21, hx4_21⟩ : ∃ y : Int, y = x4 + 1 := ⟨_, rfl⟩
      have hw := hw x4_21 hx4_21
      refine lv_iinc (v := hz_i x4_21) (lv' := [(4, .int (hz_i x4_21)), (0, .ref om), (1, .int (hz_i y1)), (2, .int (hz_i y2)), (3, .int (hz_i y3))]) hx hb dX12_bigProduct_46 hl (k := 4) rfl (by rw [hx4_21]; exact hz_i_add _ _) (by decide) rfl (fun ls hl => ?_)
      refine lv_goto (tgt := 22) hx hb dX12_bigProduct_49 (by decide) ?_
      exact (hP22 A_20 x4_21).mp hw H locs ls hP hD hS (lv_sub hl [1, 2, 3, 4, 0] rfl)
  have hP := hP0; have hD := hD0; have hS := hS0; have hl := hl0; have hw := hw0
  obtain ⟨H, hH⟩ : ∃ H : Heap, H = s.heap := ⟨_, rfl⟩
  obtain ⟨locs, hlocs⟩ : ∃ L : List Loc, L = [] := ⟨_, rfl⟩
  rw [← hH] at hP
  have hS : va_S Ad s.heap H locs := by rw [hH, hlocs]; exact hS
  refine mw_HL hH hlocs ?_
  refine lv_aload_n hx hb dX12_bigProduct_0 rfl (lv_at hl 0 rfl) ?_
  refine mw_get (v := .ref (R 1)) hx hb hts hin12 hown hK hP 1 (by decide) (hts (.fieldLink RX12 18 "HiddenMovesModel" "lengths" "[I") (List.mem_cons_of_mem _ (List.mem_append_left _ (List.mem_of_getElem? (i := 0) rfl)))) (fun _ h9 => h9) rfl dX12_bigProduct_1 ?_
  refine lv_iload_n hx hb dX12_bigProduct_4 rfl (lv_at hl 1 rfl) ?_
  refine lv_aload_n hx hb dX12_bigProduct_5 rfl (lv_at hl 0 rfl) ?_
  refine mw_get (v := .ref (R 1)) hx hb hts hin12 hown hK hP 1 (by decide) (hts (.fieldLink RX12 18 "HiddenMovesModel" "lengths" "[I") (List.mem_cons_of_mem _ (List.mem_append_left _ (List.mem_of_getElem? (i := 0) rfl)))) (fun _ h9 => h9) rfl dX12_bigProduct_6 ?_
  refine lv_iload_n hx hb dX12_bigProduct_9 rfl (lv_at hl 2 rfl) ?_
  obtain ⟨h9i, hw⟩ := hw
  refine mw_ild (k := 1) (n := 4250) (i := y2) hx hb hK hP 2 1 rfl rfl h9i (by decide) dX12_bigProduct_10 ?_
  refine lv_aload_n hx hb dX12_bigProduct_11 rfl (lv_at hl 0 rfl) ?_
  refine mw_get (v := .ref (R 1)) hx hb hts hin12 hown hK hP 1 (by decide) (hts (.fieldLink RX12 18 "HiddenMovesModel" "lengths" "[I") (List.mem_cons_of_mem _ (List.mem_append_left _ (List.mem_of_getElem? (i := 0) rfl)))) (fun _ h9 => h9) rfl dX12_bigProduct_12 ?_
  refine lv_iload_n hx hb dX12_bigProduct_15 rfl (lv_at hl 3 rfl) ?_
  obtain ⟨h9i, hw⟩ := hw
  refine mw_ild (k := 1) (n := 4250) (i := y3) hx hb hK hP 2 1 rfl rfl h9i (by decide) dX12_bigProduct_16 ?_
  refine hz_iadd hx hb dX12_bigProduct_17 ?_
  obtain ⟨h9i, hw⟩ := hw
  refine mw_ist (k := 1) (n := 4250) (i := y1) (v := (A 1 (y2.toNat)) + (A 1 (y3.toNat))) hx hb hK hP hD hS 2 1 rfl rfl (mw_a1 om R C z A) h9i (by decide) dX12_bigProduct_18 (fun H locs hP hD hS => ?_)
  obtain ⟨A_22, hA_22⟩ : ∃ y : Nat → Nat → Int, y = hz_s A 1 y1 ((A 1 (y2.toNat)) + (A 1 (y3.toNat))) := ⟨_, rfl⟩
  rw [← hA_22] at hP hD
  have hw := hw A_22 hA_22
  refine lv_iconst (v := hz_i 0) hx hb dX12_bigProduct_19 (by decide +kernel) ?_
  refine lv_istore (lv' := [(4, .int (hz_i 0)), (0, .ref om), (1, .int (hz_i y1)), (2, .int (hz_i y2)), (3, .int (hz_i y3))]) hx hb dX12_bigProduct_20 hl (by decide) rfl (fun ls hl => ?_)
  exact L22 A_22 0 hw H locs ls hP hD hS (lv_sub hl [1, 2, 3, 4, 0] rfl)

noncomputable def wp_bigLose_70 (z : Nat → Int) (A : Nat → Nat → Int) (y1 : Int) (y2 : Int) (y3 : Int) (y5 : Int) (x8 : Int) (t0 : Int) (t1 : Int) (P7 : (Nat → Nat → Int) → Int → Int → Prop) (Q : (Nat → Nat → Int) → Prop) : Prop := ∀ x9_1 : Int, x9_1 = t1 - t0 → hz_rL x9_1 ∧ ∀ x11_2 : Int, x11_2 = x9_1 % 16777216 → hz_rL (x11_2 - x9_1) ∧ ∀ x6_3 : Int, x6_3 = (x11_2 - x9_1) / 16777216 → wp_from z A y1 (fun r_4 => (0 ≤ r_4 + x8 ∧ r_4 + x8 < 553480) ∧ ∀ A_5 : Nat → Nat → Int, A_5 = hz_s A 0 (r_4 + x8) x11_2 → ∀ x8_6 : Int, x8_6 = x8 + 1 → P7 A_5 x6_3 x8_6)
noncomputable def wp_bigLose_7 (z : Nat → Int) (A : Nat → Nat → Int) (y1 : Int) (y2 : Int) (y3 : Int) (y5 : Int) (x6 : Int) (x8 : Int) (Q : (Nat → Nat → Int) → Prop) : Prop := ∀ P7 : (Nat → Nat → Int) → Int → Int → Prop, (∀ (A : Nat → Nat → Int) (x6 : Int) (x8 : Int), (0 ≤ y1 ∧ y1 < 4250) ∧ hz_rI x8 ∧ hz_rI (A 1 (y1.toNat)) ∧ ((A 1 (y1.toNat) ≤ x8 → wp_bigTrim z A y1 (fun A_9 => Q A_9)) ∧ (¬ (A 1 (y1.toNat) ≤ x8) → wp_from z A y1 (fun r_10 => (0 ≤ r_10 + x8 ∧ r_10 + x8 < 553480) ∧ hz_rI (A 0 ((r_10 + x8).toNat)) ∧ (0 ≤ y2 ∧ y2 < 4250) ∧ hz_rI (x8 - y5) ∧ hz_rI (A 1 (y2.toNat)) ∧ ((A 1 (y2.toNat) ≤ x8 - y5 → wp_bigLose_70 z A y1 y2 y3 y5 x8 0 ((A 0 ((r_10 + x8).toNat)) - x6) P7 Q) ∧ (¬ (A 1 (y2.toNat) ≤ x8 - y5) → wp_from z A y2 (fun r_12 => (0 ≤ (r_12 + x8) - y5 ∧ (r_12 + x8) - y5 < 553480) ∧ hz_rI (A 0 (((r_12 + x8) - y5).toNat)) ∧ wp_bigLose_70 z A y1 y2 y3 y5 x8 (y3 * (A 0 (((r_12 + x8) - y5).toNat))) ((A 0 ((r_10 + x8).toNat)) - x6) P7 Q)))))) → P7 A x6 x8) → P7 A x6 x8
noncomputable def wp_bigLose (z : Nat → Int) (A : Nat → Nat → Int) (y1 : Int) (y2 : Int) (y3 : Int) (y5 : Int) (Q : (Nat → Nat → Int) → Prop) : Prop := wp_bigLose_7 z A y1 y2 y3 y5 0 y5  Q
set_option maxHeartbeats 4000000 in
set_option maxRecDepth 100000 in
theorem k_bigLose (l : Launch) (D : va_G) (sz : Nat) (om : Nat) (R : Nat → Nat) (C : Nat → ClassId) (z : Nat → Int) (A : Nat → Nat → Int) (y1 : Int) (y2 : Int) (y3 : Int) (y5 : Int) (Q : (Nat → Nat → Int) → Prop) (hw : wp_bigLose z A y1 y2 y3 y5 Q) : Met l yX12_bigLose wsX12_bigLose ({ frames := 2, cells := 0, slots := 0, locals := 41 } : Room) (va_Pc [.ref om, .int (hz_i y1), .int (hz_i y2), .long (hz_l y3), .int (hz_i y5)] (hm_P D (mw_w om R C z A) (mw_t C) sz)) (va_Qv (S := Int × (Nat → Int) × (Nat → Nat → Int)) (fun u => Q u.2.2) (fun u t => hm_B D (va_A (mw_w om R C z A) sz) (mw_w om R C z u.2.2) (mw_t C) t) (va_A (mw_w om R C z A) sz)) 0 0 (va_A (mw_w om R C z A) sz) := by
  refine Met.ofW (cc := cX12_bigLose) (maxL := 13) (ret := none) (by decide) rfl ?_
  intro p e s m args below meth c s₁ B hml hv
  obtain ⟨rfl, hsz, hP, hK, hD0, hE⟩ := hv
  have hx := B.exec
  have hb := B.bytes
  have hr := B.returns
  have hts := atoms_spec (ws := wsX12_bigLose) B.pre
  have hown : s.vm.findClass RX12 = some m.cls := findClass_of_methodNamed B.named
  have hlocks := B.notSynchronized
  have hin12 : ∀ w ∈ u_ws RX12 TX12 58, w ∈ wsX12_bigLose := fun w h => List.mem_cons_of_mem _ (List.mem_append_right _ (h))
  subst hsz
  have hD := hD0.self (sz := s.heap.size)
  generalize hAe : va_A (mw_w om R C z A) s.heap.size = Ad at hD ⊢
  have hA : ∀ q : Nat, s.heap.size ≤ q → Ad q := fun q h => by rw [← hAe]; exact Or.inr h
  have hS : va_S Ad s.heap s.heap [] := va_S.rf
  have hl := lv_entry ([.ref om, .int (hz_i y1), .int (hz_i y2), .long (hz_l y3), .int (hz_i y5)]) (n := 13) (Nat.le_of_ble_eq_true rfl)
  rw [lg_entry_eq]
  generalize (lg_sl ([.ref om, .int (hz_i y1), .int (hz_i y2), .long (hz_l y3), .int (hz_i y5)]) ++ List.replicate (13 - (lg_sl ([.ref om, .int (hz_i y1), .int (hz_i y2), .long (hz_l y3), .int (hz_i y5)])).length) Slot.unset).toArray = ls at hl ⊢
  have hl : lv_has ls 13 [(0, .ref om), (1, .int (hz_i y1)), (2, .int (hz_i y2)), (3, .long (hz_l y3)), (5, .int (hz_i y5))] := hl
  refine mw_Q (fun QQ hQQ => ?_)
  have hP0 := hP; have hD0 := hD; have hS0 := hS; have hl0 := hl; have hw0 := hw
  clear hP hD hS hl hw
  have L7 : ∀ (A : Nat → Nat → Int) (x6 : Int) (x8 : Int), wp_bigLose_7 z A y1 y2 y3 y5 x6 x8  Q → ∀ (H : Heap) (locs : List Loc) (ls : Array Slot), va_P D vwCl (mw_w om R C z A) H → va_D Ad (mw_w om R C z A) → va_S Ad s.heap H locs → lv_has ls 13 [(0, .ref om), (1, .int (hz_i y1)), (2, .int (hz_i y2)), (3, .long (hz_l y3)), (5, .int (hz_i y5)), (6, .long (hz_l x6)), (8, .int (hz_i x8))] → W p l e (headSpec wsX12_bigLose ({ frames := 2, cells := 0, slots := 0, locals := 41 } : Room)).room s m (List.toArray [.ref om, .int (hz_i y1), .int (hz_i y2), .long (hz_l y3), .int (hz_i y5)]) below meth c H locs 0 0 QQ (F0 m 7 ls []) := by
    intro A x6 x8 hw
    obtain ⟨P7, hP7⟩ : ∃ P : (Nat → Nat → Int) → Int → Int → Prop, ∀ (A : Nat → Nat → Int) (x6 : Int) (x8 : Int), P A x6 x8 ↔ (∀ (H : Heap) (locs : List Loc) (ls : Array Slot), va_P D vwCl (mw_w om R C z A) H → va_D Ad (mw_w om R C z A) → va_S Ad s.heap H locs → lv_has ls 13 [(0, .ref om), (1, .int (hz_i y1)), (2, .int (hz_i y2)), (3, .long (hz_l y3)), (5, .int (hz_i y5)), (6, .long (hz_l x6)), (8, .int (hz_i x8))] → W p l e (headSpec wsX12_bigLose ({ frames := 2, cells := 0, slots := 0, locals := 41 } : Room)).room s m (List.toArray [.ref om, .int (hz_i y1), .int (hz_i y2), .long (hz_l y3), .int (hz_i y5)]) below meth c H locs 0 0 QQ (F0 m 7 ls [])) := ⟨fun (A : Nat → Nat → Int) (x6 : Int) (x8 : Int) => ∀ (H : Heap) (locs : List Loc) (ls : Array Slot), va_P D vwCl (mw_w om R C z A) H → va_D Ad (mw_w om R C z A) → va_S Ad s.heap H locs → lv_has ls 13 [(0, .ref om), (1, .int (hz_i y1)), (2, .int (hz_i y2)), (3, .long (hz_l y3)), (5, .int (hz_i y5)), (6, .long (hz_l x6)), (8, .int (hz_i x8))] → W p l e (headSpec wsX12_bigLose ({ frames := 2, cells := 0, slots := 0, locals := 41 } : Room)).room s m (List.toArray [.ref om, .int (hz_i y1), .int (hz_i y2), .long (hz_l y3), .int (hz_i y5)]) below meth c H locs 0 0 QQ (F0 m 7 ls []), fun _ _ _ => Iff.rfl⟩
    refine (hP7 A x6 x8).mp (hw P7 ?_)
    intro A x6 x8 hw
    refine (hP7 A x6 x8).mpr ?_
    intro H locs ls hP hD hS hl
    have L70 : ∀ (A : Nat → Nat → Int) (x8 : Int) (t0 : Int) (t1 : Int), wp_bigLose_70 z A y1 y2 y3 y5 x8 t0 t1 P7 Q → ∀ (H : Heap) (locs : List Loc) (ls : Array Slot), va_P D vwCl (mw_w om R C z A) H → va_D Ad (mw_w om R C z A) → va_S Ad s.heap H locs → lv_has ls 13 [(0, .ref om), (1, .int (hz_i y1)), (2, .int (hz_i y2)), (3, .long (hz_l y3)), (5, .int (hz_i y5)), (8, .int (hz_i x8))] → W p l e (headSpec wsX12_bigLose ({ frames := 2, cells := 0, slots := 0, locals := 41 } : Room)).room s m (List.toArray [.ref om, .int (hz_i y1), .int (hz_i y2), .long (hz_l y3), .int (hz_i y5)]) below meth c H locs 0 0 QQ (F0 m 70 ls [.long (hz_l t0), .long (hz_l t1)]) := by
      intro A x8 t0 t1 hw H locs ls hP hD hS hl
      refine hz_lsub hx hb dX12_bigLose_70 ?_
      refine hz_topl (fun x9_1 hx9_1 => ?_)
      have hw := hw x9_1 hx9_1
      refine lv_lstore (lv' := [(9, .long (hz_l x9_1)), (0, .ref om), (1, .int (hz_i y1)), (2, .int (hz_i y2)), (3, .long (hz_l y3)), (5, .int (hz_i y5)), (8, .int (hz_i x8))]) hx hb dX12_bigLose_71 hl (by decide) rfl (fun ls hl => ?_)
      refine lv_lload hx hb dX12_bigLose_73 (lv_at hl 0 rfl) ?_
      refine lv_ldc2 hx hb hown (hts (.constantLong RX12 16 (16777215)) (List.mem_cons_of_mem _ (List.mem_append_left _ (List.mem_of_getElem? (i := 2) rfl)))) dX12_bigLose_75 ?_
      refine hz_asl (b := 16777215) (by decide +kernel) ?_
      obtain ⟨h9a, hw⟩ := hw
      refine hz_wland (P := 16777216) hx hb 24 dX12_bigLose_78 (by decide) (by decide +kernel) (by decide +kernel) h9a ?_
      refine hz_topl (fun x11_2 hx11_2 => ?_)
      have hw := hw x11_2 hx11_2
      refine lv_lstore (lv' := [(11, .long (hz_l x11_2)), (9, .long (hz_l x9_1)), (0, .ref om), (1, .int (hz_i y1)), (2, .int (hz_i y2)), (3, .long (hz_l y3)), (5, .int (hz_i y5)), (8, .int (hz_i x8))]) hx hb dX12_bigLose_79 hl (by decide) rfl (fun ls hl => ?_)
      refine lv_lload hx hb dX12_bigLose_81 (lv_at hl 0 rfl) ?_
      refine lv_lload hx hb dX12_bigLose_83 (lv_at hl 1 rfl) ?_
      refine hz_lsub hx hb dX12_bigLose_85 ?_
      refine lv_bipush (v := hz_i 24) hx hb dX12_bigLose_86 (by decide +kernel) ?_
      obtain ⟨h9a, hw⟩ := hw
      refine hz_wlshr (P := 16777216) (d := 24) hx hb dX12_bigLose_88 h9a (by decide +kernel) (by decide +kernel) ?_
      refine hz_topl (fun x6_3 hx6_3 => ?_)
      have hw := hw x6_3 hx6_3
      refine lv_lstore (lv' := [(6, .long (hz_l x6_3)), (11, .long (hz_l x11_2)), (9, .long (hz_l x9_1)), (0, .ref om), (1, .int (hz_i y1)), (2, .int (hz_i y2)), (3, .long (hz_l y3)), (5, .int (hz_i y5)), (8, .int (hz_i x8))]) hx hb dX12_bigLose_89 hl (by decide) rfl (fun ls hl => ?_)
      refine lv_aload_n hx hb dX12_bigLose_91 rfl (lv_at hl 3 rfl) ?_
      refine mw_get (v := .ref (R 0)) hx hb hts hin12 hown hK hP 0 (by decide) (hts (.fieldLink RX12 8 "HiddenMovesModel" "parts" "[I") (List.mem_cons_of_mem _ (List.mem_append_left _ (List.mem_of_getElem? (i := 1) rfl)))) (fun _ h9 => h9) rfl dX12_bigLose_92 ?_
      refine lv_iload_n hx hb dX12_bigLose_95 rfl (lv_at hl 4 rfl) ?_
      have hFc := mw_free hD hS hA
      refine va_calli (va_runS (As := [.int (hz_i y1)]) (rest := [.ref (R 0)]) ⟨hx, hb, hml, hown, hts⟩ (k_from l D _ om R C z A y1 _ hw) (va_cwS 1 hts gX12_bigLose_X12_from rfl rfl rfl (by decide +kernel) ⟨Nat.le_of_ble_eq_true rfl, Nat.le_of_ble_eq_true rfl⟩) ⟨hm_blind, hm_pre hP hK hD hE⟩ rfl rfl hl.1 rfl (lv_room (Nat.le_of_ble_eq_true rfl)) dX12_bigLose_96 ⟨Nat.le_of_ble_eq_true rfl, Nat.le_of_ble_eq_true rfl⟩) hS (fun q _ h => hFc q h) hFc (fun rv u t H1 locs ht hvm hw hB hz1 hk1 hS => ?_)
      obtain ⟨r_4, _, _⟩ := u
      obtain ⟨hP, hK1, hD1⟩ := hB
      rw [ht] at hP
      obtain ⟨hrv, hw⟩ := hw
      subst hrv
      have hD := hD1.weaken (fun k q _ h => hFc q.1 h)
      have hP : va_P D vwCl (mw_w om R C z A) H1 := hP
      have hD : va_D Ad (mw_w om R C z A) := hD
      generalize H1 = H at hP hS ⊢
      refine W.eq (g2 := F0 m 99 ls [.int (hz_i r_4), .ref (R 0)]) rfl ?_
      refine lv_iload hx hb dX12_bigLose_99 (lv_at hl 8 rfl) ?_
      refine hz_iadd hx hb dX12_bigLose_101 ?_
      refine lv_lload hx hb dX12_bigLose_102 (lv_at hl 1 rfl) ?_
      refine hz_wl2i hx hb dX12_bigLose_104 ?_
      obtain ⟨h9i, hw⟩ := hw
      refine mw_ist (k := 0) (n := 553480) (i := r_4 + x8) (v := x11_2) hx hb hK hP hD hS 1 0 rfl rfl (mw_a0 om R C z A) h9i (by decide) dX12_bigLose_105 (fun H locs hP hD hS => ?_)
      obtain ⟨A_5, hA_5⟩ : ∃ y : Nat → Nat → Int, y = hz_s A 0 (r_4 + x8) x11_2 := ⟨_, rfl⟩
      rw [← hA_5] at hP hD
      have hw := hw A_5 hA_5
      obtain ⟨x8_6, hx8_6⟩ : ∃ y : Int, y = x8 + 1 := ⟨_, rfl⟩
      have hw := hw x8_6 hx8_6
      refine lv_iinc (v := hz_i x8_6) (lv' := [(8, .int (hz_i x8_6)), (6, .long (hz_l x6_3)), (11, .long (hz_l x11_2)), (9, .long (hz_l x9_1)), (0, .ref om), (1, .int (hz_i y1)), (2, .int (hz_i y2)), (3, .long (hz_l y3)), (5, .int (hz_i y5))]) hx hb dX12_bigLose_106 hl (k := 8) rfl (by rw [hx8_6]; exact hz_i_add _ _) (by decide) rfl (fun ls hl => ?_)
      refine lv_goto (tgt := 7) hx hb dX12_bigLose_109 (by decide) ?_
      exact (hP7 A_5 x6_3 x8_6).mp hw H locs ls hP hD hS (lv_sub hl [4, 5, 6, 7, 8, 1, 0] rfl)
    refine lv_iload hx hb dX12_bigLose_7 (lv_at hl 6 rfl) ?_
    refine lv_aload_n hx hb dX12_bigLose_9 rfl (lv_at hl 0 rfl) ?_
    refine mw_get (v := .ref (R 1)) hx hb hts hin12 hown hK hP 1 (by decide) (hts (.fieldLink RX12 18 "HiddenMovesModel" "lengths" "[I") (List.mem_cons_of_mem _ (List.mem_append_left _ (List.mem_of_getElem? (i := 0) rfl)))) (fun _ h9 => h9) rfl dX12_bigLose_10 ?_
    refine lv_iload_n hx hb dX12_bigLose_13 rfl (lv_at hl 1 rfl) ?_
    obtain ⟨h9i, hw⟩ := hw
    refine mw_ild (k := 1) (n := 4250) (i := y1) hx hb hK hP 2 1 rfl rfl h9i (by decide) dX12_bigLose_14 ?_
    obtain ⟨h9a, hw⟩ := hw
    obtain ⟨h9b, hw⟩ := hw
    refine hz_icmp_ge (tgt := 112) hx hb dX12_bigLose_15 (by decide) h9a h9b (fun c_7 => ?_) (fun c_7 => ?_)
    · have hw := hw.1 c_7
      refine lv_aload_n hx hb dX12_bigLose_112 rfl (lv_at hl 0 rfl) ?_
      refine lv_iload_n hx hb dX12_bigLose_113 rfl (lv_at hl 1 rfl) ?_
      have hFc := mw_free hD hS hA
      refine va_callv (va_runV (As := [.int (hz_i y1)]) (rest := []) ⟨hx, hb, hml, hown, hts⟩ (k_bigTrim l D _ om R C z A y1 _ hw) (cwV 1 hts gX12_bigLose_X12_bigTrim rfl rfl rfl (by decide +kernel) ⟨Nat.le_of_ble_eq_true rfl, Nat.le_of_ble_eq_true rfl⟩) ⟨hm_blind, va_recv hK hP (ci := 12) (q0 := 0) rfl rfl, hm_pre hP hK hD hE⟩ rfl rfl hl.1 rfl (lv_room (Nat.le_of_ble_eq_true rfl)) dX12_bigLose_114 ⟨Nat.le_of_ble_eq_true rfl, Nat.le_of_ble_eq_true rfl⟩) hS (fun q _ h => hFc q h) hFc (fun u t H1 locs ht hvm hw hB hz1 hk1 hS => ?_)
      obtain ⟨r_8, _, A_9⟩ := u
      obtain ⟨hP, hK1, hD1⟩ := hB
      rw [ht] at hP
      have hD := hD1.weaken (fun k q _ h => hFc q.1 h)
      have hP : va_P D vwCl (mw_w om R C z A_9) H1 := hP
      have hD : va_D Ad (mw_w om R C z A_9) := hD
      generalize H1 = H at hP hS ⊢
      refine W.eq (g2 := F0 m 117 ls []) rfl ?_
      subst hQQ
      subst hAe
      exact W.vret hx hb hr (fun t ht hW => ⟨⟨(0, z, A_9), rfl, hw, by rw [ht]; exact hP, va_K.moved hW.alike hK, hD⟩, hS.F ht⟩) hS.2.2 dX12_bigLose_117
    · have hw := hw.2 c_7
      refine lv_aload_n hx hb dX12_bigLose_18 rfl (lv_at hl 0 rfl) ?_
      refine mw_get (v := .ref (R 0)) hx hb hts hin12 hown hK hP 0 (by decide) (hts (.fieldLink RX12 8 "HiddenMovesModel" "parts" "[I") (List.mem_cons_of_mem _ (List.mem_append_left _ (List.mem_of_getElem? (i := 1) rfl)))) (fun _ h9 => h9) rfl dX12_bigLose_19 ?_
      refine lv_iload_n hx hb dX12_bigLose_22 rfl (lv_at hl 1 rfl) ?_
      have hFc := mw_free hD hS hA
      refine va_calli (va_runS (As := [.int (hz_i y1)]) (rest := [.ref (R 0)]) ⟨hx, hb, hml, hown, hts⟩ (k_from l D _ om R C z A y1 _ hw) (va_cwS 1 hts gX12_bigLose_X12_from rfl rfl rfl (by decide +kernel) ⟨Nat.le_of_ble_eq_true rfl, Nat.le_of_ble_eq_true rfl⟩) ⟨hm_blind, hm_pre hP hK hD hE⟩ rfl rfl hl.1 rfl (lv_room (Nat.le_of_ble_eq_true rfl)) dX12_bigLose_23 ⟨Nat.le_of_ble_eq_true rfl, Nat.le_of_ble_eq_true rfl⟩) hS (fun q _ h => hFc q h) hFc (fun rv u t H1 locs ht hvm hw hB hz1 hk1 hS => ?_)
      obtain ⟨r_10, _, _⟩ := u
      obtain ⟨hP, hK1, hD1⟩ := hB
      rw [ht] at hP
      obtain ⟨hrv, hw⟩ := hw
      subst hrv
      have hD := hD1.weaken (fun k q _ h => hFc q.1 h)
      have hP : va_P D vwCl (mw_w om R C z A) H1 := hP
      have hD : va_D Ad (mw_w om R C z A) := hD
      generalize H1 = H at hP hS ⊢
      refine W.eq (g2 := F0 m 26 ls [.int (hz_i r_10), .ref (R 0)]) rfl ?_
      refine lv_iload hx hb dX12_bigLose_26 (lv_at hl 6 rfl) ?_
      refine hz_iadd hx hb dX12_bigLose_28 ?_
      obtain ⟨h9i, hw⟩ := hw
      refine mw_ild (k := 0) (n := 553480) (i := r_10 + x8) hx hb hK hP 1 0 rfl rfl h9i (by decide) dX12_bigLose_29 ?_
      obtain ⟨h9a, hw⟩ := hw
      refine hz_wi2l hx hb dX12_bigLose_30 h9a ?_
      refine lv_lload hx hb dX12_bigLose_31 (lv_at hl 5 rfl) ?_
      refine hz_lsub hx hb dX12_bigLose_33 ?_
      refine lv_iload hx hb dX12_bigLose_34 (lv_at hl 6 rfl) ?_
      refine lv_iload hx hb dX12_bigLose_36 (lv_at hl 4 rfl) ?_
      refine hz_isub hx hb dX12_bigLose_38 ?_
      refine lv_aload_n hx hb dX12_bigLose_39 rfl (lv_at hl 0 rfl) ?_
      refine mw_get (v := .ref (R 1)) hx hb hts hin12 hown hK hP 1 (by decide) (hts (.fieldLink RX12 18 "HiddenMovesModel" "lengths" "[I") (List.mem_cons_of_mem _ (List.mem_append_left _ (List.mem_of_getElem? (i := 0) rfl)))) (fun _ h9 => h9) rfl dX12_bigLose_40 ?_
      refine lv_iload_n hx hb dX12_bigLose_43 rfl (lv_at hl 2 rfl) ?_
      obtain ⟨h9i, hw⟩ := hw
      refine mw_ild (k := 1) (n := 4250) (i := y2) hx hb hK hP 2 1 rfl rfl h9i (by decide) dX12_bigLose_44 ?_
      obtain ⟨h9a, hw⟩ := hw
      obtain ⟨h9b, hw⟩ := hw
      refine hz_icmp_ge (tgt := 69) hx hb dX12_bigLose_45 (by decide) h9a h9b (fun c_11 => ?_) (fun c_11 => ?_)
      · have hw := hw.1 c_11
        refine lv_lconst (v := hz_l 0) hx hb dX12_bigLose_69 (by decide +kernel) ?_
        exact L70 A x8 0 ((A 0 ((r_10 + x8).toNat)) - x6) hw H locs ls hP hD hS (lv_sub hl [0, 1, 2, 3, 4, 6] rfl)
      · have hw := hw.2 c_11
        refine lv_lload_n hx hb dX12_bigLose_48 rfl (lv_at hl 3 rfl) ?_
        refine lv_aload_n hx hb dX12_bigLose_49 rfl (lv_at hl 0 rfl) ?_
        refine mw_get (v := .ref (R 0)) hx hb hts hin12 hown hK hP 0 (by decide) (hts (.fieldLink RX12 8 "HiddenMovesModel" "parts" "[I") (List.mem_cons_of_mem _ (List.mem_append_left _ (List.mem_of_getElem? (i := 1) rfl)))) (fun _ h9 => h9) rfl dX12_bigLose_50 ?_
        refine lv_iload_n hx hb dX12_bigLose_53 rfl (lv_at hl 2 rfl) ?_
        have hFc := mw_free hD hS hA
        refine va_calli (va_runS (As := [.int (hz_i y2)]) (rest := [.ref (R 0), .long (hz_l y3), .long (hz_l ((A 0 ((r_10 + x8).toNat)) - x6))]) ⟨hx, hb, hml, hown, hts⟩ (k_from l D _ om R C z A y2 _ hw) (va_cwS 1 hts gX12_bigLose_X12_from rfl rfl rfl (by decide +kernel) ⟨Nat.le_of_ble_eq_true rfl, Nat.le_of_ble_eq_true rfl⟩) ⟨hm_blind, hm_pre hP hK hD hE⟩ rfl rfl hl.1 rfl (lv_room (Nat.le_of_ble_eq_true rfl)) dX12_bigLose_54 ⟨Nat.le_of_ble_eq_true rfl, Nat.le_of_ble_eq_true rfl⟩) hS (fun q _ h => hFc q h) hFc (fun rv u t H1 locs ht hvm hw hB hz1 hk1 hS => ?_)
        obtain ⟨r_12, _, _⟩ := u
        obtain ⟨hP, hK1, hD1⟩ := hB
        rw [ht] at hP
        obtain ⟨hrv, hw⟩ := hw
        subst hrv
        have hD := hD1.weaken (fun k q _ h => hFc q.1 h)
        have hP : va_P D vwCl (mw_w om R C z A) H1 := hP
        have hD : va_D Ad (mw_w om R C z A) := hD
        generalize H1 = H at hP hS ⊢
        refine W.eq (g2 := F0 m 57 ls [.int (hz_i r_12), .ref (R 0), .long (hz_l y3), .long (hz_l ((A 0 ((r_10 + x8).toNat)) - x6))]) rfl ?_
        refine lv_iload hx hb dX12_bigLose_57 (lv_at hl 6 rfl) ?_
        refine hz_iadd hx hb dX12_bigLose_59 ?_
        refine lv_iload hx hb dX12_bigLose_60 (lv_at hl 4 rfl) ?_
        refine hz_isub hx hb dX12_bigLose_62 ?_
        obtain ⟨h9i, hw⟩ := hw
        refine mw_ild (k := 0) (n := 553480) (i := (r_12 + x8) - y5) hx hb hK hP 1 0 rfl rfl h9i (by decide) dX12_bigLose_63 ?_
        obtain ⟨h9a, hw⟩ := hw
        refine hz_wi2l hx hb dX12_bigLose_64 h9a ?_
        refine hz_lmul hx hb dX12_bigLose_65 ?_
        refine lv_goto (tgt := 70) hx hb dX12_bigLose_66 (by decide) ?_
        exact L70 A x8 (y3 * (A 0 (((r_12 + x8) - y5).toNat))) ((A 0 ((r_10 + x8).toNat)) - x6) hw H locs ls hP hD hS (lv_sub hl [0, 1, 2, 3, 4, 6] rfl)
  have hP := hP0; have hD := hD0; have hS := hS0; have hl := hl0; have hw := hw0
  obtain ⟨H, hH⟩ : ∃ H : Heap, H = s.heap := ⟨_, rfl⟩
  obtain ⟨locs, hlocs⟩ : ∃ L : List Loc, L = [] := ⟨_, rfl⟩
  rw [← hH] at hP
  have hS : va_S Ad s.heap H locs := by rw [hH, hlocs]; exact hS
  refine mw_HL hH hlocs ?_
  refine lv_lconst (v := hz_l 0) hx hb dX12_bigLose_0 (by decide +kernel) ?_
  refine lv_lstore (lv' := [(6, .long (hz_l 0)), (0, .ref om), (1, .int (hz_i y1)), (2, .int (hz_i y2)), (3, .long (hz_l y3)), (5, .int (hz_i y5))]) hx hb dX12_bigLose_1 hl (by decide) rfl (fun ls hl => ?_)
  refine lv_iload hx hb dX12_bigLose_3 (lv_at hl 5 rfl) ?_
  refine lv_istore (lv' := [(8, .int (hz_i y5)), (6, .long (hz_l 0)), (0, .ref om), (1, .int (hz_i y1)), (2, .int (hz_i y2)), (3, .long (hz_l y3)), (5, .int (hz_i y5))]) hx hb dX12_bigLose_5 hl (by decide) rfl (fun ls hl => ?_)
  exact L7 A 0 y5 hw H locs ls hP hD hS (lv_sub hl [2, 3, 4, 5, 6, 1, 0] rfl)

noncomputable def wp_bigHolds_111 (z : Nat → Int) (A : Nat → Nat → Int) (t0 : Int) (Q : Int → Prop) : Prop := (t0 = 0 ∨ t0 = 1) ∧ Q t0
noncomputable def wp_bigHolds_106 (z : Nat → Int) (A : Nat → Nat → Int) (Q : Int → Prop) : Prop := wp_bigHolds_111 z A 1  Q
noncomputable def wp_bigHolds_81 (z : Nat → Int) (A : Nat → Nat → Int) (y1 : Int) (y2 : Int) (y3 : Int) (x4 : Int) (Q : Int → Prop) : Prop := hz_rI x4 ∧ hz_rI y3 ∧ ((x4 < y3 → wp_bigHolds_106 z A  Q) ∧ (¬ (x4 < y3) → wp_bigAt z A y1 x4 (fun r_2 => wp_bigAt z A y2 (x4 - y3) (fun r_3 => hz_rI r_2 ∧ hz_rI r_3 ∧ ((r_2 ≤ r_3 → wp_bigHolds_111 z A 0  Q) ∧ (¬ (r_2 ≤ r_3) → wp_bigHolds_106 z A  Q))))))
noncomputable def wp_bigHolds_50 (z : Nat → Int) (A : Nat → Nat → Int) (y1 : Int) (y2 : Int) (y3 : Int) (x4 : Int) (Q : Int → Prop) : Prop := ∀ P50 : Int → Prop, (∀ (x4 : Int), hz_rI x4 ∧ hz_rI y3 ∧ ((x4 < y3 → wp_bigHolds_81 z A y1 y2 y3 x4  Q) ∧ (¬ (x4 < y3) → wp_bigAt z A y1 x4 (fun r_6 => wp_bigAt z A y2 (x4 - y3) (fun r_7 => hz_rI r_6 ∧ hz_rI r_7 ∧ ((¬ r_6 = r_7 → wp_bigHolds_81 z A y1 y2 y3 x4  Q) ∧ (r_6 = r_7 → ∀ x4_9 : Int, x4_9 = x4 + (-1) → P50 x4_9)))))) → P50 x4) → P50 x4
noncomputable def wp_bigHolds_39 (z : Nat → Int) (A : Nat → Nat → Int) (t0 : Int) (Q : Int → Prop) : Prop := (t0 = 0 ∨ t0 = 1) ∧ Q t0
noncomputable def wp_bigHolds (z : Nat → Int) (A : Nat → Nat → Int) (y1 : Int) (y2 : Int) (y3 : Int) (Q : Int → Prop) : Prop := (0 ≤ y1 ∧ y1 < 4250) ∧ (0 ≤ y2 ∧ y2 < 4250) ∧ hz_rI (A 1 (y1.toNat)) ∧ hz_rI ((A 1 (y2.toNat)) + y3) ∧ ((A 1 (y1.toNat) = (A 1 (y2.toNat)) + y3 → (0 ≤ y1 ∧ y1 < 4250) ∧ ∀ x4_11 : Int, x4_11 = (A 1 (y1.toNat)) - 1 → wp_bigHolds_50 z A y1 y2 y3 x4_11  Q) ∧ (¬ (A 1 (y1.toNat) = (A 1 (y2.toNat)) + y3) → (0 ≤ y1 ∧ y1 < 4250) ∧ (0 ≤ y2 ∧ y2 < 4250) ∧ hz_rI (A 1 (y1.toNat)) ∧ hz_rI ((A 1 (y2.toNat)) + y3) ∧ ((A 1 (y1.toNat) ≤ (A 1 (y2.toNat)) + y3 → wp_bigHolds_39 z A 0  Q) ∧ (¬ (A 1 (y1.toNat) ≤ (A 1 (y2.toNat)) + y3) → wp_bigHolds_39 z A 1  Q))))
set_option maxHeartbeats 4000000 in
set_option maxRecDepth 100000 in
theorem k_bigHolds (l : Launch) (D : va_G) (sz : Nat) (om : Nat) (R : Nat → Nat) (C : Nat → ClassId) (z : Nat → Int) (A : Nat → Nat → Int) (y1 : Int) (y2 : Int) (y3 : Int) (Q : Int → Prop) (hw : wp_bigHolds z A y1 y2 y3 Q) : Met l yX12_bigHolds wsX12_bigHolds ({ frames := 2, cells := 0, slots := 0, locals := 42 } : Room) (va_Pc [.ref om, .int (hz_i y1), .int (hz_i y2), .int (hz_i y3)] (hm_P D (mw_w om R C z A) (mw_t C) sz)) (va_Qi (S := Int × (Nat → Int) × (Nat → Nat → Int)) (fun r u => r = hz_i u.1 ∧ Q u.1) (fun u t => hm_B D (va_A (mw_w om R C z A) sz) (mw_w om R C z A) (mw_t C) t) (va_A (mw_w om R C z A) sz)) 0 0 (va_A (mw_w om R C z A) sz) := by
  refine Met.ofW (cc := cX12_bigHolds) (maxL := 5) (ret := (some .boolean)) (by decide) rfl ?_
  intro p e s m args below meth c s₁ B hml hv
  obtain ⟨rfl, hsz, hP, hK, hD0, hE⟩ := hv
  have hx := B.exec
  have hb := B.bytes
  have hr := B.returns
  have hts := atoms_spec (ws := wsX12_bigHolds) B.pre
  have hown : s.vm.findClass RX12 = some m.cls := findClass_of_methodNamed B.named
  have hlocks := B.notSynchronized
  have hin12 : ∀ w ∈ u_ws RX12 TX12 58, w ∈ wsX12_bigHolds := fun w h => List.mem_cons_of_mem _ (List.mem_append_right _ (h))
  subst hsz
  have hD := hD0.self (sz := s.heap.size)
  generalize hAe : va_A (mw_w om R C z A) s.heap.size = Ad at hD ⊢
  have hA : ∀ q : Nat, s.heap.size ≤ q → Ad q := fun q h => by rw [← hAe]; exact Or.inr h
  have hS : va_S Ad s.heap s.heap [] := va_S.rf
  have hl := lv_entry ([.ref om, .int (hz_i y1), .int (hz_i y2), .int (hz_i y3)]) (n := 5) (Nat.le_of_ble_eq_true rfl)
  rw [lg_entry_eq]
  generalize (lg_sl ([.ref om, .int (hz_i y1), .int (hz_i y2), .int (hz_i y3)]) ++ List.replicate (5 - (lg_sl ([.ref om, .int (hz_i y1), .int (hz_i y2), .int (hz_i y3)])).length) Slot.unset).toArray = ls at hl ⊢
  have hl : lv_has ls 5 [(0, .ref om), (1, .int (hz_i y1)), (2, .int (hz_i y2)), (3, .int (hz_i y3))] := hl
  refine mw_Q (fun QQ hQQ => ?_)
  have hP0 := hP; have hD0 := hD; have hS0 := hS; have hl0 := hl; have hw0 := hw
  clear hP hD hS hl hw
  have L111 : ∀ (t0 : Int), wp_bigHolds_111 z A t0  Q → ∀ (H : Heap) (locs : List Loc) (ls : Array Slot), va_P D vwCl (mw_w om R C z A) H → va_D Ad (mw_w om R C z A) → va_S Ad s.heap H locs → lv_has ls 5 [(0, .ref om)] → W p l e (headSpec wsX12_bigHolds ({ frames := 2, cells := 0, slots := 0, locals := 42 } : Room)).room s m (List.toArray [.ref om, .int (hz_i y1), .int (hz_i y2), .int (hz_i y3)]) below meth c H locs 0 0 QQ (F0 m 111 ls [.int (hz_i t0)]) := by
    intro t0 hw H locs ls hP hD hS hl
    obtain ⟨h9z, hw⟩ := hw
    subst hQQ
    subst hAe
    exact W.zret (v := hz_i t0) hx hb hr (hz_tZ h9z) (fun t ht hW => ⟨⟨hz_i t0, (t0, z, A), rfl, ⟨rfl, hw⟩, by rw [ht]; exact hP, va_K.moved hW.alike hK, hD⟩, hS.F ht⟩) hS.2.2 dX12_bigHolds_111
  have L106 : wp_bigHolds_106 z A  Q → ∀ (H : Heap) (locs : List Loc) (ls : Array Slot), va_P D vwCl (mw_w om R C z A) H → va_D Ad (mw_w om R C z A) → va_S Ad s.heap H locs → lv_has ls 5 [(0, .ref om)] → W p l e (headSpec wsX12_bigHolds ({ frames := 2, cells := 0, slots := 0, locals := 42 } : Room)).room s m (List.toArray [.ref om, .int (hz_i y1), .int (hz_i y2), .int (hz_i y3)]) below meth c H locs 0 0 QQ (F0 m 106 ls []) := by
    intro  hw H locs ls hP hD hS hl
    refine lv_iconst (v := hz_i 1) hx hb dX12_bigHolds_106 (by decide +kernel) ?_
    refine lv_goto (tgt := 111) hx hb dX12_bigHolds_107 (by decide) ?_
    exact L111 1 hw H locs ls hP hD hS (lv_sub hl [0] rfl)
  have L81 : ∀ (x4 : Int), wp_bigHolds_81 z A y1 y2 y3 x4  Q → ∀ (H : Heap) (locs : List Loc) (ls : Array Slot), va_P D vwCl (mw_w om R C z A) H → va_D Ad (mw_w om R C z A) → va_S Ad s.heap H locs → lv_has ls 5 [(0, .ref om), (1, .int (hz_i y1)), (2, .int (hz_i y2)), (3, .int (hz_i y3)), (4, .int (hz_i x4))] → W p l e (headSpec wsX12_bigHolds ({ frames := 2, cells := 0, slots := 0, locals := 42 } : Room)).room s m (List.toArray [.ref om, .int (hz_i y1), .int (hz_i y2), .int (hz_i y3)]) below meth c H locs 0 0 QQ (F0 m 81 ls []) := by
    intro x4 hw H locs ls hP hD hS hl
    refine lv_iload hx hb dX12_bigHolds_81 (lv_at hl 4 rfl) ?_
    refine lv_iload_n hx hb dX12_bigHolds_83 rfl (lv_at hl 3 rfl) ?_
    obtain ⟨h9a, hw⟩ := hw
    obtain ⟨h9b, hw⟩ := hw
    refine hz_icmp_lt (tgt := 106) hx hb dX12_bigHolds_84 (by decide) h9a h9b (fun c_1 => ?_) (fun c_1 => ?_)
    · have hw := hw.1 c_1
      exact L106  hw H locs ls hP hD hS (lv_sub hl [0] rfl)
    · have hw := hw.2 c_1
      refine lv_aload_n hx hb dX12_bigHolds_87 rfl (lv_at hl 0 rfl) ?_
      refine lv_iload_n hx hb dX12_bigHolds_88 rfl (lv_at hl 1 rfl) ?_
      refine lv_iload hx hb dX12_bigHolds_89 (lv_at hl 4 rfl) ?_
      have hFc := mw_free hD hS hA
      refine va_calli (va_runV (As := [.int (hz_i y1), .int (hz_i x4)]) (rest := []) ⟨hx, hb, hml, hown, hts⟩ (k_bigAt l D _ om R C z A y1 x4 _ hw) (cwV 2 hts gX12_bigHolds_X12_bigAt rfl rfl rfl (by decide +kernel) ⟨Nat.le_of_ble_eq_true rfl, Nat.le_of_ble_eq_true rfl⟩) ⟨hm_blind, va_recv hK hP (ci := 12) (q0 := 0) rfl rfl, hm_pre hP hK hD hE⟩ rfl rfl hl.1 rfl (lv_room (Nat.le_of_ble_eq_true rfl)) dX12_bigHolds_91 ⟨Nat.le_of_ble_eq_true rfl, Nat.le_of_ble_eq_true rfl⟩) hS (fun q _ h => hFc q h) hFc (fun rv u t H1 locs ht hvm hw hB hz1 hk1 hS => ?_)
      obtain ⟨r_2, _, _⟩ := u
      obtain ⟨hP, hK1, hD1⟩ := hB
      rw [ht] at hP
      obtain ⟨hrv, hw⟩ := hw
      subst hrv
      have hD := hD1.weaken (fun k q _ h => hFc q.1 h)
      have hP : va_P D vwCl (mw_w om R C z A) H1 := hP
      have hD : va_D Ad (mw_w om R C z A) := hD
      generalize H1 = H at hP hS ⊢
      refine W.eq (g2 := F0 m 94 ls [.int (hz_i r_2)]) rfl ?_
      refine lv_aload_n hx hb dX12_bigHolds_94 rfl (lv_at hl 0 rfl) ?_
      refine lv_iload_n hx hb dX12_bigHolds_95 rfl (lv_at hl 2 rfl) ?_
      refine lv_iload hx hb dX12_bigHolds_96 (lv_at hl 4 rfl) ?_
      refine lv_iload_n hx hb dX12_bigHolds_98 rfl (lv_at hl 3 rfl) ?_
      refine hz_isub hx hb dX12_bigHolds_99 ?_
      have hFc := mw_free hD hS hA
      refine va_calli (va_runV (As := [.int (hz_i y2), .int (hz_i (x4 - y3))]) (rest := [.int (hz_i r_2)]) ⟨hx, hb, hml, hown, hts⟩ (k_bigAt l D _ om R C z A y2 (x4 - y3) _ hw) (cwV 2 hts gX12_bigHolds_X12_bigAt rfl rfl rfl (by decide +kernel) ⟨Nat.le_of_ble_eq_true rfl, Nat.le_of_ble_eq_true rfl⟩) ⟨hm_blind, va_recv hK hP (ci := 12) (q0 := 0) rfl rfl, hm_pre hP hK hD hE⟩ rfl rfl hl.1 rfl (lv_room (Nat.le_of_ble_eq_true rfl)) dX12_bigHolds_100 ⟨Nat.le_of_ble_eq_true rfl, Nat.le_of_ble_eq_true rfl⟩) hS (fun q _ h => hFc q h) hFc (fun rv u t H1 locs ht hvm hw hB hz1 hk1 hS => ?_)
      obtain ⟨r_3, _, _⟩ := u
      obtain ⟨hP, hK1, hD1⟩ := hB
      rw [ht] at hP
      obtain ⟨hrv, hw⟩ := hw
      subst hrv
      have hD := hD1.weaken (fun k q _ h => hFc q.1 h)
      have hP : va_P D vwCl (mw_w om R C z A) H1 := hP
      have hD : va_D Ad (mw_w om R C z A) := hD
      generalize H1 = H at hP hS ⊢
      refine W.eq (g2 := F0 m 103 ls [.int (hz_i r_3), .int (hz_i r_2)]) rfl ?_
      obtain ⟨h9a, hw⟩ := hw
      obtain ⟨h9b, hw⟩ := hw
      refine hz_icmp_le (tgt := 110) hx hb dX12_bigHolds_103 (by decide) h9a h9b (fun c_4 => ?_) (fun c_4 => ?_)
      · have hw := hw.1 c_4
        refine lv_iconst (v := hz_i 0) hx hb dX12_bigHolds_110 (by decide +kernel) ?_
        exact L111 0 hw H locs ls hP hD hS (lv_sub hl [0] rfl)
      · have hw := hw.2 c_4
        exact L106  hw H locs ls hP hD hS (lv_sub hl [0] rfl)
  have L50 : ∀ (x4 : Int), wp_bigHolds_50 z A y1 y2 y3 x4  Q → ∀ (H : Heap) (locs : List Loc) (ls : Array Slot), va_P D vwCl (mw_w om R C z A) H → va_D Ad (mw_w om R C z A) → va_S Ad s.heap H locs → lv_has ls 5 [(0, .ref om), (1, .int (hz_i y1)), (2, .int (hz_i y2)), (3, .int (hz_i y3)), (4, .int (hz_i x4))] → W p l e (headSpec wsX12_bigHolds ({ frames := 2, cells := 0, slots := 0, locals := 42 } : Room)).room s m (List.toArray [.ref om, .int (hz_i y1), .int (hz_i y2), .int (hz_i y3)]) below meth c H locs 0 0 QQ (F0 m 50 ls []) := by
    intro x4 hw
    obtain ⟨P50, hP50⟩ : ∃ P : Int → Prop, ∀ (x4 : Int), P x4 ↔ (∀ (H : Heap) (locs : List Loc) (ls : Array Slot), va_P D vwCl (mw_w om R C z A) H → va_D Ad (mw_w om R C z A) → va_S Ad s.heap H locs → lv_has ls 5 [(0, .ref om), (1, .int (hz_i y1)), (2, .int (hz_i y2)), (3, .int (hz_i y3)), (4, .int (hz_i x4))] → W p l e (headSpec wsX12_bigHolds ({ frames := 2, cells := 0, slots := 0, locals := 42 } : Room)).room s m (List.toArray [.ref om, .int (hz_i y1), .int (hz_i y2), .int (hz_i y3)]) below meth c H locs 0 0 QQ (F0 m 50 ls [])) := ⟨fun (x4 : Int) => ∀ (H : Heap) (locs : List Loc) (ls : Array Slot), va_P D vwCl (mw_w om R C z A) H → va_D Ad (mw_w om R C z A) → va_S Ad s.heap H locs → lv_has ls 5 [(0, .ref om), (1, .int (hz_i y1)), (2, .int (hz_i y2)), (3, .int (hz_i y3)), (4, .int (hz_i x4))] → W p l e (headSpec wsX12_bigHolds ({ frames := 2, cells := 0, slots := 0, locals := 42 } : Room)).room s m (List.toArray [.ref om, .int (hz_i y1), .int (hz_i y2), .int (hz_i y3)]) below meth c H locs 0 0 QQ (F0 m 50 ls []), fun _ => Iff.rfl⟩
    refine (hP50 x4).mp (hw P50 ?_)
    intro x4 hw
    refine (hP50 x4).mpr ?_
    intro H locs ls hP hD hS hl
    refine lv_iload hx hb dX12_bigHolds_50 (lv_at hl 4 rfl) ?_
    refine lv_iload_n hx hb dX12_bigHolds_52 rfl (lv_at hl 3 rfl) ?_
    obtain ⟨h9a, hw⟩ := hw
    obtain ⟨h9b, hw⟩ := hw
    refine hz_icmp_lt (tgt := 81) hx hb dX12_bigHolds_53 (by decide) h9a h9b (fun c_5 => ?_) (fun c_5 => ?_)
    · have hw := hw.1 c_5
      exact L81 x4 hw H locs ls hP hD hS (lv_sub hl [0, 1, 2, 3, 4] rfl)
    · have hw := hw.2 c_5
      refine lv_aload_n hx hb dX12_bigHolds_56 rfl (lv_at hl 0 rfl) ?_
      refine lv_iload_n hx hb dX12_bigHolds_57 rfl (lv_at hl 1 rfl) ?_
      refine lv_iload hx hb dX12_bigHolds_58 (lv_at hl 4 rfl) ?_
      have hFc := mw_free hD hS hA
      refine va_calli (va_runV (As := [.int (hz_i y1), .int (hz_i x4)]) (rest := []) ⟨hx, hb, hml, hown, hts⟩ (k_bigAt l D _ om R C z A y1 x4 _ hw) (cwV 2 hts gX12_bigHolds_X12_bigAt rfl rfl rfl (by decide +kernel) ⟨Nat.le_of_ble_eq_true rfl, Nat.le_of_ble_eq_true rfl⟩) ⟨hm_blind, va_recv hK hP (ci := 12) (q0 := 0) rfl rfl, hm_pre hP hK hD hE⟩ rfl rfl hl.1 rfl (lv_room (Nat.le_of_ble_eq_true rfl)) dX12_bigHolds_60 ⟨Nat.le_of_ble_eq_true rfl, Nat.le_of_ble_eq_true rfl⟩) hS (fun q _ h => hFc q h) hFc (fun rv u t H1 locs ht hvm hw hB hz1 hk1 hS => ?_)
      obtain ⟨r_6, _, _⟩ := u
      obtain ⟨hP, hK1, hD1⟩ := hB
      rw [ht] at hP
      obtain ⟨hrv, hw⟩ := hw
      subst hrv
      have hD := hD1.weaken (fun k q _ h => hFc q.1 h)
      have hP : va_P D vwCl (mw_w om R C z A) H1 := hP
      have hD : va_D Ad (mw_w om R C z A) := hD
      generalize H1 = H at hP hS ⊢
      refine W.eq (g2 := F0 m 63 ls [.int (hz_i r_6)]) rfl ?_
      refine lv_aload_n hx hb dX12_bigHolds_63 rfl (lv_at hl 0 rfl) ?_
      refine lv_iload_n hx hb dX12_bigHolds_64 rfl (lv_at hl 2 rfl) ?_
      refine lv_iload hx hb dX12_bigHolds_65 (lv_at hl 4 rfl) ?_
      refine lv_iload_n hx hb dX12_bigHolds_67 rfl (lv_at hl 3 rfl) ?_
      refine hz_isub hx hb dX12_bigHolds_68 ?_
      have hFc := mw_free hD hS hA
      refine va_calli (va_runV (As := [.int (hz_i y2), .int (hz_i (x4 - y3))]) (rest := [.int (hz_i r_6)]) ⟨hx, hb, hml, hown, hts⟩ (k_bigAt l D _ om R C z A y2 (x4 - y3) _ hw) (cwV 2 hts gX12_bigHolds_X12_bigAt rfl rfl rfl (by decide +kernel) ⟨Nat.le_of_ble_eq_true rfl, Nat.le_of_ble_eq_true rfl⟩) ⟨hm_blind, va_recv hK hP (ci := 12) (q0 := 0) rfl rfl, hm_pre hP hK hD hE⟩ rfl rfl hl.1 rfl (lv_room (Nat.le_of_ble_eq_true rfl)) dX12_bigHolds_69 ⟨Nat.le_of_ble_eq_true rfl, Nat.le_of_ble_eq_true rfl⟩) hS (fun q _ h => hFc q h) hFc (fun rv u t H1 locs ht hvm hw hB hz1 hk1 hS => ?_)
      obtain ⟨r_7, _, _⟩ := u
      obtain ⟨hP, hK1, hD1⟩ := hB
      rw [ht] at hP
      obtain ⟨hrv, hw⟩ := hw
      subst hrv
      have hD := hD1.weaken (fun k q _ h => hFc q.1 h)
      have hP : va_P D vwCl (mw_w om R C z A) H1 := hP
      have hD : va_D Ad (mw_w om R C z A) := hD
      generalize H1 = H at hP hS ⊢
      refine W.eq (g2 := F0 m 72 ls [.int (hz_i r_7), .int (hz_i r_6)]) rfl ?_
      obtain ⟨h9a, hw⟩ := hw
      obtain ⟨h9b, hw⟩ := hw
      refine hz_icmp_ne (tgt := 81) hx hb dX12_bigHolds_72 (by decide) h9a h9b (fun c_8 => ?_) (fun c_8 => ?_)
      · have hw := hw.1 c_8
        exact L81 x4 hw H locs ls hP hD hS (lv_sub hl [0, 1, 2, 3, 4] rfl)
      · have hw := hw.2 c_8
        obtain ⟨x4_9, hx4_9⟩ : ∃ y : Int, y = x4 + (-1) := ⟨_, rfl⟩
        have hw := hw x4_9 hx4_9
        refine lv_iinc (v := hz_i x4_9) (lv' := [(4, .int (hz_i x4_9)), (0, .ref om), (1, .int (hz_i y1)), (2, .int (hz_i y2)), (3, .int (hz_i y3))]) hx hb dX12_bigHolds_75 hl (k := 4) rfl (by rw [hx4_9]; exact hz_i_add _ _) (by decide) rfl (fun ls hl => ?_)
        refine lv_goto (tgt := 50) hx hb dX12_bigHolds_78 (by decide) ?_
        exact (hP50 x4_9).mp hw H locs ls hP hD hS (lv_sub hl [1, 2, 3, 4, 0] rfl)
  have L39 : ∀ (t0 : Int), wp_bigHolds_39 z A t0  Q → ∀ (H : Heap) (locs : List Loc) (ls : Array Slot), va_P D vwCl (mw_w om R C z A) H → va_D Ad (mw_w om R C z A) → va_S Ad s.heap H locs → lv_has ls 5 [(0, .ref om)] → W p l e (headSpec wsX12_bigHolds ({ frames := 2, cells := 0, slots := 0, locals := 42 } : Room)).room s m (List.toArray [.ref om, .int (hz_i y1), .int (hz_i y2), .int (hz_i y3)]) below meth c H locs 0 0 QQ (F0 m 39 ls [.int (hz_i t0)]) := by
    intro t0 hw H locs ls hP hD hS hl
    obtain ⟨h9z, hw⟩ := hw
    subst hQQ
    subst hAe
    exact W.zret (v := hz_i t0) hx hb hr (hz_tZ h9z) (fun t ht hW => ⟨⟨hz_i t0, (t0, z, A), rfl, ⟨rfl, hw⟩, by rw [ht]; exact hP, va_K.moved hW.alike hK, hD⟩, hS.F ht⟩) hS.2.2 dX12_bigHolds_39
  have hP := hP0; have hD := hD0; have hS := hS0; have hl := hl0; have hw := hw0
  obtain ⟨H, hH⟩ : ∃ H : Heap, H = s.heap := ⟨_, rfl⟩
  obtain ⟨locs, hlocs⟩ : ∃ L : List Loc, L = [] := ⟨_, rfl⟩
  rw [← hH] at hP
  have hS : va_S Ad s.heap H locs := by rw [hH, hlocs]; exact hS
  refine mw_HL hH hlocs ?_
  refine lv_aload_n hx hb dX12_bigHolds_0 rfl (lv_at hl 0 rfl) ?_
  refine mw_get (v := .ref (R 1)) hx hb hts hin12 hown hK hP 1 (by decide) (hts (.fieldLink RX12 18 "HiddenMovesModel" "lengths" "[I") (List.mem_cons_of_mem _ (List.mem_append_left _ (List.mem_of_getElem? (i := 0) rfl)))) (fun _ h9 => h9) rfl dX12_bigHolds_1 ?_
  refine lv_iload_n hx hb dX12_bigHolds_4 rfl (lv_at hl 1 rfl) ?_
  obtain ⟨h9i, hw⟩ := hw
  refine mw_ild (k := 1) (n := 4250) (i := y1) hx hb hK hP 2 1 rfl rfl h9i (by decide) dX12_bigHolds_5 ?_
  refine lv_aload_n hx hb dX12_bigHolds_6 rfl (lv_at hl 0 rfl) ?_
  refine mw_get (v := .ref (R 1)) hx hb hts hin12 hown hK hP 1 (by decide) (hts (.fieldLink RX12 18 "HiddenMovesModel" "lengths" "[I") (List.mem_cons_of_mem _ (List.mem_append_left _ (List.mem_of_getElem? (i := 0) rfl)))) (fun _ h9 => h9) rfl dX12_bigHolds_7 ?_
  refine lv_iload_n hx hb dX12_bigHolds_10 rfl (lv_at hl 2 rfl) ?_
  obtain ⟨h9i, hw⟩ := hw
  refine mw_ild (k := 1) (n := 4250) (i := y2) hx hb hK hP 2 1 rfl rfl h9i (by decide) dX12_bigHolds_11 ?_
  refine lv_iload_n hx hb dX12_bigHolds_12 rfl (lv_at hl 3 rfl) ?_
  refine hz_iadd hx hb dX12_bigHolds_13 ?_
  obtain ⟨h9a, hw⟩ := hw
  obtain ⟨h9b, hw⟩ := hw
  refine hz_icmp_eq (tgt := 40) hx hb dX12_bigHolds_14 (by decide) h9a h9b (fun c_10 => ?_) (fun c_10 => ?_)
  · have hw := hw.1 c_10
    refine lv_aload_n hx hb dX12_bigHolds_40 rfl (lv_at hl 0 rfl) ?_
    refine mw_get (v := .ref (R 1)) hx hb hts hin12 hown hK hP 1 (by decide) (hts (.fieldLink RX12 18 "HiddenMovesModel" "lengths" "[I") (List.mem_cons_of_mem _ (List.mem_append_left _ (List.mem_of_getElem? (i := 0) rfl)))) (fun _ h9 => h9) rfl dX12_bigHolds_41 ?_
    refine lv_iload_n hx hb dX12_bigHolds_44 rfl (lv_at hl 1 rfl) ?_
    obtain ⟨h9i, hw⟩ := hw
    refine mw_ild (k := 1) (n := 4250) (i := y1) hx hb hK hP 2 1 rfl rfl h9i (by decide) dX12_bigHolds_45 ?_
    refine lv_iconst (v := hz_i 1) hx hb dX12_bigHolds_46 (by decide +kernel) ?_
    refine hz_isub hx hb dX12_bigHolds_47 ?_
    refine hz_topi (fun x4_11 hx4_11 => ?_)
    have hw := hw x4_11 hx4_11
    refine lv_istore (lv' := [(4, .int (hz_i x4_11)), (0, .ref om), (1, .int (hz_i y1)), (2, .int (hz_i y2)), (3, .int (hz_i y3))]) hx hb dX12_bigHolds_48 hl (by decide) rfl (fun ls hl => ?_)
    exact L50 x4_11 hw H locs ls hP hD hS (lv_sub hl [1, 2, 3, 4, 0] rfl)
  · have hw := hw.2 c_10
    refine lv_aload_n hx hb dX12_bigHolds_17 rfl (lv_at hl 0 rfl) ?_
    refine mw_get (v := .ref (R 1)) hx hb hts hin12 hown hK hP 1 (by decide) (hts (.fieldLink RX12 18 "HiddenMovesModel" "lengths" "[I") (List.mem_cons_of_mem _ (List.mem_append_left _ (List.mem_of_getElem? (i := 0) rfl)))) (fun _ h9 => h9) rfl dX12_bigHolds_18 ?_
    refine lv_iload_n hx hb dX12_bigHolds_21 rfl (lv_at hl 1 rfl) ?_
    obtain ⟨h9i, hw⟩ := hw
    refine mw_ild (k := 1) (n := 4250) (i := y1) hx hb hK hP 2 1 rfl rfl h9i (by decide) dX12_bigHolds_22 ?_
    refine lv_aload_n hx hb dX12_bigHolds_23 rfl (lv_at hl 0 rfl) ?_
    refine mw_get (v := .ref (R 1)) hx hb hts hin12 hown hK hP 1 (by decide) (hts (.fieldLink RX12 18 "HiddenMovesModel" "lengths" "[I") (List.mem_cons_of_mem _ (List.mem_append_left _ (List.mem_of_getElem? (i := 0) rfl)))) (fun _ h9 => h9) rfl dX12_bigHolds_24 ?_
    refine lv_iload_n hx hb dX12_bigHolds_27 rfl (lv_at hl 2 rfl) ?_
    obtain ⟨h9i, hw⟩ := hw
    refine mw_ild (k := 1) (n := 4250) (i := y2) hx hb hK hP 2 1 rfl rfl h9i (by decide) dX12_bigHolds_28 ?_
    refine lv_iload_n hx hb dX12_bigHolds_29 rfl (lv_at hl 3 rfl) ?_
    refine hz_iadd hx hb dX12_bigHolds_30 ?_
    obtain ⟨h9a, hw⟩ := hw
    obtain ⟨h9b, hw⟩ := hw
    refine hz_icmp_le (tgt := 38) hx hb dX12_bigHolds_31 (by decide) h9a h9b (fun c_12 => ?_) (fun c_12 => ?_)
    · have hw := hw.1 c_12
      refine lv_iconst (v := hz_i 0) hx hb dX12_bigHolds_38 (by decide +kernel) ?_
      exact L39 0 hw H locs ls hP hD hS (lv_sub hl [0] rfl)
    · have hw := hw.2 c_12
      refine lv_iconst (v := hz_i 1) hx hb dX12_bigHolds_34 (by decide +kernel) ?_
      refine lv_goto (tgt := 39) hx hb dX12_bigHolds_35 (by decide) ?_
      exact L39 1 hw H locs ls hP hD hS (lv_sub hl [0] rfl)

noncomputable def wp_bigDivide_148 (z : Nat → Int) (A : Nat → Nat → Int) (y1 : Int) (y2 : Int) (y3 : Int) (x5 : Int) (x7 : Int) (x8 : Int) (t0 : Int) (P70 : (Nat → Nat → Int) → Int → Prop) (P78 : (Nat → Nat → Int) → Int → Prop) (Q : (Nat → Nat → Int) → Prop) : Prop := wp_bigLose z A y1 y2 t0 x7 (fun A_2 => ∀ x8_3 : Int, x8_3 = x8 + t0 → P78 A_2 x8_3)
noncomputable def wp_bigDivide_78 (z : Nat → Int) (A : Nat → Nat → Int) (y1 : Int) (y2 : Int) (y3 : Int) (x5 : Int) (x7 : Int) (x8 : Int) (P70 : (Nat → Nat → Int) → Int → Prop) (Q : (Nat → Nat → Int) → Prop) : Prop := ∀ P78 : (Nat → Nat → Int) → Int → Prop, (∀ (A : Nat → Nat → Int) (x8 : Int), wp_bigHolds z A y1 y2 x7 (fun r_4 => hz_rI r_4 ∧ ((r_4 = 0 → wp_from z A y3 (fun r_6 => (0 ≤ r_6 + x7 ∧ r_6 + x7 < 553480) ∧ ∀ A_7 : Nat → Nat → Int, A_7 = hz_s A 0 (r_6 + x7) x8 → ∀ x7_8 : Int, x7_8 = x7 + (-1) → P70 A_7 x7_8)) ∧ (¬ (r_4 = 0) → (0 ≤ y2 ∧ y2 < 4250) ∧ wp_bigAt z A y1 (x7 + (A 1 (y2.toNat))) (fun r_9 => hz_rI r_9 ∧ (0 ≤ y2 ∧ y2 < 4250) ∧ wp_bigAt z A y1 ((x7 + (A 1 (y2.toNat))) - 1) (fun r_10 => hz_rI r_10 ∧ ∀ x10_11 : Int, x10_11 = (r_9 * 16777216) + r_10 → ¬ x5 = 0 ∧ hz_rL x10_11 ∧ hz_rL x5 ∧ ∀ x12_12 : Int, x12_12 = x10_11.tdiv x5 → hz_rL x12_12 ∧ ((1 ≤ x12_12 → wp_bigDivide_148 z A y1 y2 y3 x5 x7 x8 x12_12 P70 P78 Q) ∧ (¬ (1 ≤ x12_12) → wp_bigDivide_148 z A y1 y2 y3 x5 x7 x8 1 P70 P78 Q))))))) → P78 A x8) → P78 A x8
noncomputable def wp_bigDivide_70 (z : Nat → Int) (A : Nat → Nat → Int) (y1 : Int) (y2 : Int) (y3 : Int) (x5 : Int) (x7 : Int) (Q : (Nat → Nat → Int) → Prop) : Prop := ∀ P70 : (Nat → Nat → Int) → Int → Prop, (∀ (A : Nat → Nat → Int) (x7 : Int), hz_rI x7 ∧ ((x7 < 0 → wp_bigTrim z A y3 (fun A_16 => Q A_16)) ∧ (¬ (x7 < 0) → wp_bigDivide_78 z A y1 y2 y3 x5 x7 0 P70 Q)) → P70 A x7) → P70 A x7
noncomputable def wp_bigDivide_47 (z : Nat → Int) (A : Nat → Nat → Int) (y1 : Int) (y2 : Int) (y3 : Int) (x4 : Int) (t0 : Int) (t1 : Int) (Q : (Nat → Nat → Int) → Prop) : Prop := (0 ≤ t1 ∧ t1 < 4250) ∧ ∀ A_17 : Nat → Nat → Int, A_17 = hz_s A 1 t1 t0 → (0 ≤ y2 ∧ y2 < 4250) ∧ wp_bigAt z A_17 y2 ((A_17 1 (y2.toNat)) - 1) (fun r_18 => hz_rI r_18 ∧ ∀ x5_19 : Int, x5_19 = r_18 + 1 → wp_bigDivide_70 z A_17 y1 y2 y3 x5_19 x4  Q)
noncomputable def wp_bigDivide (z : Nat → Int) (A : Nat → Nat → Int) (y1 : Int) (y2 : Int) (y3 : Int) (Q : (Nat → Nat → Int) → Prop) : Prop := (0 ≤ y1 ∧ y1 < 4250) ∧ ∀ A_20 : Nat → Nat → Int, A_20 = hz_s A 2 y1 0 → (0 ≤ y3 ∧ y3 < 4250) ∧ ∀ A_21 : Nat → Nat → Int, A_21 = hz_s A_20 2 y3 0 → (0 ≤ y1 ∧ y1 < 4250) ∧ (0 ≤ y2 ∧ y2 < 4250) ∧ ∀ x4_22 : Int, x4_22 = (A_21 1 (y1.toNat)) - (A_21 1 (y2.toNat)) → hz_rI x4_22 ∧ ((0 ≤ x4_22 → wp_bigDivide_47 z A_21 y1 y2 y3 x4_22 (x4_22 + 1) y3  Q) ∧ (¬ (0 ≤ x4_22) → wp_bigDivide_47 z A_21 y1 y2 y3 x4_22 0 y3  Q))
set_option maxHeartbeats 4000000 in
set_option maxRecDepth 100000 in
theorem k_bigDivide (l : Launch) (D : va_G) (sz : Nat) (om : Nat) (R : Nat → Nat) (C : Nat → ClassId) (z : Nat → Int) (A : Nat → Nat → Int) (y1 : Int) (y2 : Int) (y3 : Int) (Q : (Nat → Nat → Int) → Prop) (hw : wp_bigDivide z A y1 y2 y3 Q) : Met l yX12_bigDivide wsX12_bigDivide ({ frames := 3, cells := 0, slots := 0, locals := 73 } : Room) (va_Pc [.ref om, .int (hz_i y1), .int (hz_i y2), .int (hz_i y3)] (hm_P D (mw_w om R C z A) (mw_t C) sz)) (va_Qv (S := Int × (Nat → Int) × (Nat → Nat → Int)) (fun u => Q u.2.2) (fun u t => hm_B D (va_A (mw_w om R C z A) sz) (mw_w om R C z u.2.2) (mw_t C) t) (va_A (mw_w om R C z A) sz)) 0 0 (va_A (mw_w om R C z A) sz) := by
  refine Met.ofW (cc := cX12_bigDivide) (maxL := 14) (ret := none) (by decide) rfl ?_
  intro p e s m args below meth c s₁ B hml hv
  obtain ⟨rfl, hsz, hP, hK, hD0, hE⟩ := hv
  have hx := B.exec
  have hb := B.bytes
  have hr := B.returns
  have hts := atoms_spec (ws := wsX12_bigDivide) B.pre
  have hown : s.vm.findClass RX12 = some m.cls := findClass_of_methodNamed B.named
  have hlocks := B.notSynchronized
  have hin12 : ∀ w ∈ u_ws RX12 TX12 58, w ∈ wsX12_bigDivide := fun w h => List.mem_cons_of_mem _ (List.mem_append_right _ (h))
  subst hsz
  have hD := hD0.self (sz := s.heap.size)
  generalize hAe : va_A (mw_w om R C z A) s.heap.size = Ad at hD ⊢
  have hA : ∀ q : Nat, s.heap.size ≤ q → Ad q := fun q h => by rw [← hAe]; exact Or.inr h
  have hS : va_S Ad s.heap s.heap [] := va_S.rf
  have hl := lv_entry ([.ref om, .int (hz_i y1), .int (hz_i y2), .int (hz_i y3)]) (n := 14) (Nat.le_of_ble_eq_true rfl)
  rw [lg_entry_eq]
  generalize (lg_sl ([.ref om, .int (hz_i y1), .int (hz_i y2), .int (hz_i y3)]) ++ List.replicate (14 - (lg_sl ([.ref om, .int (hz_i y1), .int (hz_i y2), .int (hz_i y3)])).length) Slot.unset).toArray = ls at hl ⊢
  have hl : lv_has ls 14 [(0, .ref om), (1, .int (hz_i y1)), (2, .int (hz_i y2)), (3, .int (hz_i y3))] := hl
  refine mw_Q (fun QQ hQQ => ?_)
  have hP0 := hP; have hD0 := hD; have hS0 := hS; have hl0 := hl; have hw0 := hw
  clear hP hD hS hl hw
  have L70 : ∀ (A : Nat → Nat → Int) (x5 : Int) (x7 : Int), wp_bigDivide_70 z A y1 y2 y3 x5 x7  Q → ∀ (H : Heap) (locs : List Loc) (ls : Array Slot), va_P D vwCl (mw_w om R C z A) H → va_D Ad (mw_w om R C z A) → va_S Ad s.heap H locs → lv_has ls 14 [(0, .ref om), (1, .int (hz_i y1)), (2, .int (hz_i y2)), (3, .int (hz_i y3)), (5, .long (hz_l x5)), (7, .int (hz_i x7))] → W p l e (headSpec wsX12_bigDivide ({ frames := 3, cells := 0, slots := 0, locals := 73 } : Room)).room s m (List.toArray [.ref om, .int (hz_i y1), .int (hz_i y2), .int (hz_i y3)]) below meth c H locs 0 0 QQ (F0 m 70 ls []) := by
    intro A x5 x7 hw
    obtain ⟨P70, hP70⟩ : ∃ P : (Nat → Nat → Int) → Int → Prop, ∀ (A : Nat → Nat → Int) (x7 : Int), P A x7 ↔ (∀ (H : Heap) (locs : List Loc) (ls : Array Slot), va_P D vwCl (mw_w om R C z A) H → va_D Ad (mw_w om R C z A) → va_S Ad s.heap H locs → lv_has ls 14 [(0, .ref om), (1, .int (hz_i y1)), (2, .int (hz_i y2)), (3, .int (hz_i y3)), (5, .long (hz_l x5)), (7, .int (hz_i x7))] → W p l e (headSpec wsX12_bigDivide ({ frames := 3, cells := 0, slots := 0, locals := 73 } : Room)).room s m (List.toArray [.ref om, .int (hz_i y1), .int (hz_i y2), .int (hz_i y3)]) below meth c H locs 0 0 QQ (F0 m 70 ls [])) := ⟨fun (A : Nat → Nat → Int) (x7 : Int) => ∀ (H : Heap) (locs : List Loc) (ls : Array Slot), va_P D vwCl (mw_w om R C z A) H → va_D Ad (mw_w om R C z A) → va_S Ad s.heap H locs → lv_has ls 14 [(0, .ref om), (1, .int (hz_i y1)), (2, .int (hz_i y2)), (3, .int (hz_i y3)), (5, .long (hz_l x5)), (7, .int (hz_i x7))] → W p l e (headSpec wsX12_bigDivide ({ frames := 3, cells := 0, slots := 0, locals := 73 } : Room)).room s m (List.toArray [.ref om, .int (hz_i y1), .int (hz_i y2), .int (hz_i y3)]) below meth c H locs 0 0 QQ (F0 m 70 ls []), fun _ _ => Iff.rfl⟩
    refine (hP70 A x7).mp (hw P70 ?_)
    intro A x7 hw
    refine (hP70 A x7).mpr ?_
    intro H locs ls hP hD hS hl
    have L78 : ∀ (A : Nat → Nat → Int) (x7 : Int) (x8 : Int), wp_bigDivide_78 z A y1 y2 y3 x5 x7 x8 P70 Q → ∀ (H : Heap) (locs : List Loc) (ls : Array Slot), va_P D vwCl (mw_w om R C z A) H → va_D Ad (mw_w om R C z A) → va_S Ad s.heap H locs → lv_has ls 14 [(0, .ref om), (1, .int (hz_i y1)), (2, .int (hz_i y2)), (3, .int (hz_i y3)), (5, .long (hz_l x5)), (7, .int (hz_i x7)), (8, .long (hz_l x8))] → W p l e (headSpec wsX12_bigDivide ({ frames := 3, cells := 0, slots := 0, locals := 73 } : Room)).room s m (List.toArray [.ref om, .int (hz_i y1), .int (hz_i y2), .int (hz_i y3)]) below meth c H locs 0 0 QQ (F0 m 78 ls []) := by
      intro A x7 x8 hw
      obtain ⟨P78, hP78⟩ : ∃ P : (Nat → Nat → Int) → Int → Prop, ∀ (A : Nat → Nat → Int) (x8 : Int), P A x8 ↔ (∀ (H : Heap) (locs : List Loc) (ls : Array Slot), va_P D vwCl (mw_w om R C z A) H → va_D Ad (mw_w om R C z A) → va_S Ad s.heap H locs → lv_has ls 14 [(0, .ref om), (1, .int (hz_i y1)), (2, .int (hz_i y2)), (3, .int (hz_i y3)), (5, .long (hz_l x5)), (7, .int (hz_i x7)), (8, .long (hz_l x8))] → W p l e (headSpec wsX12_bigDivide ({ frames := 3, cells := 0, slots := 0, locals := 73 } : Room)).room s m (List.toArray [.ref om, .int (hz_i y1), .int (hz_i y2), .int (hz_i y3)]) below meth c H locs 0 0 QQ (F0 m 78 ls [])) := ⟨fun (A : Nat → Nat → Int) (x8 : Int) => ∀ (H : Heap) (locs : List Loc) (ls : Array Slot), va_P D vwCl (mw_w om R C z A) H → va_D Ad (mw_w om R C z A) → va_S Ad s.heap H locs → lv_has ls 14 [(0, .ref om), (1, .int (hz_i y1)), (2, .int (hz_i y2)), (3, .int (hz_i y3)), (5, .long (hz_l x5)), (7, .int (hz_i x7)), (8, .long (hz_l x8))] → W p l e (headSpec wsX12_bigDivide ({ frames := 3, cells := 0, slots := 0, locals := 73 } : Room)).room s m (List.toArray [.ref om, .int (hz_i y1), .int (hz_i y2), .int (hz_i y3)]) below meth c H locs 0 0 QQ (F0 m 78 ls []), fun _ _ => Iff.rfl⟩
      refine (hP78 A x8).mp (hw P78 ?_)
      intro A x8 hw
      refine (hP78 A x8).mpr ?_
      intro H locs ls hP hD hS hl
      have L148 : ∀ (A : Nat → Nat → Int) (x8 : Int) (t0 : Int), wp_bigDivide_148 z A y1 y2 y3 x5 x7 x8 t0 P70 P78 Q → ∀ (H : Heap) (locs : List Loc) (ls : Array Slot), va_P D vwCl (mw_w om R C z A) H → va_D Ad (mw_w om R C z A) → va_S Ad s.heap H locs → lv_has ls 14 [(0, .ref om), (1, .int (hz_i y1)), (2, .int (hz_i y2)), (3, .int (hz_i y3)), (5, .long (hz_l x5)), (7, .int (hz_i x7)), (8, .long (hz_l x8))] → W p l e (headSpec wsX12_bigDivide ({ frames := 3, cells := 0, slots := 0, locals := 73 } : Room)).room s m (List.toArray [.ref om, .int (hz_i y1), .int (hz_i y2), .int (hz_i y3)]) below meth c H locs 0 0 QQ (F0 m 148 ls [.long (hz_l t0)]) := by
        intro A x8 t0 hw H locs ls hP hD hS hl
        refine lv_lstore (lv' := [(12, .long (hz_l t0)), (0, .ref om), (1, .int (hz_i y1)), (2, .int (hz_i y2)), (3, .int (hz_i y3)), (5, .long (hz_l x5)), (7, .int (hz_i x7)), (8, .long (hz_l x8))]) hx hb dX12_bigDivide_148 hl (by decide) rfl (fun ls hl => ?_)
        refine lv_aload_n hx hb dX12_bigDivide_150 rfl (lv_at hl 1 rfl) ?_
        refine lv_iload_n hx hb dX12_bigDivide_151 rfl (lv_at hl 2 rfl) ?_
        refine lv_iload_n hx hb dX12_bigDivide_152 rfl (lv_at hl 3 rfl) ?_
        refine lv_lload hx hb dX12_bigDivide_153 (lv_at hl 0 rfl) ?_
        refine lv_iload hx hb dX12_bigDivide_155 (lv_at hl 6 rfl) ?_
        have hFc := mw_free hD hS hA
        refine va_callv (va_runV (As := [.int (hz_i y1), .int (hz_i y2), .long (hz_l t0), .int (hz_i x7)]) (rest := []) ⟨hx, hb, hml, hown, hts⟩ (k_bigLose l D _ om R C z A y1 y2 t0 x7 _ hw) (cwV 4 hts gX12_bigDivide_X12_bigLose rfl rfl rfl (by decide +kernel) ⟨Nat.le_of_ble_eq_true rfl, Nat.le_of_ble_eq_true rfl⟩) ⟨hm_blind, va_recv hK hP (ci := 12) (q0 := 0) rfl rfl, hm_pre hP hK hD hE⟩ rfl rfl hl.1 rfl (lv_room (Nat.le_of_ble_eq_true rfl)) dX12_bigDivide_157 ⟨Nat.le_of_ble_eq_true rfl, Nat.le_of_ble_eq_true rfl⟩) hS (fun q _ h => hFc q h) hFc (fun u t H1 locs ht hvm hw hB hz1 hk1 hS => ?_)
        obtain ⟨r_1, _, A_2⟩ := u
        obtain ⟨hP, hK1, hD1⟩ := hB
        rw [ht] at hP
        have hD := hD1.weaken (fun k q _ h => hFc q.1 h)
        have hP : va_P D vwCl (mw_w om R C z A_2) H1 := hP
        have hD : va_D Ad (mw_w om R C z A_2) := hD
        generalize H1 = H at hP hS ⊢
        refine W.eq (g2 := F0 m 160 ls []) rfl ?_
        refine lv_lload hx hb dX12_bigDivide_160 (lv_at hl 7 rfl) ?_
        refine lv_lload hx hb dX12_bigDivide_162 (lv_at hl 0 rfl) ?_
        refine hz_ladd hx hb dX12_bigDivide_164 ?_
        refine hz_topl (fun x8_3 hx8_3 => ?_)
        have hw := hw x8_3 hx8_3
        refine lv_lstore (lv' := [(8, .long (hz_l x8_3)), (12, .long (hz_l t0)), (0, .ref om), (1, .int (hz_i y1)), (2, .int (hz_i y2)), (3, .int (hz_i y3)), (5, .long (hz_l x5)), (7, .int (hz_i x7))]) hx hb dX12_bigDivide_165 hl (by decide) rfl (fun ls hl => ?_)
        refine lv_goto (tgt := 78) hx hb dX12_bigDivide_167 (by decide) ?_
        exact (hP78 A_2 x8_3).mp hw H locs ls hP hD hS (lv_sub hl [2, 3, 4, 5, 6, 7, 0] rfl)
      refine lv_aload_n hx hb dX12_bigDivide_78 rfl (lv_at hl 0 rfl) ?_
      refine lv_iload_n hx hb dX12_bigDivide_79 rfl (lv_at hl 1 rfl) ?_
      refine lv_iload_n hx hb dX12_bigDivide_80 rfl (lv_at hl 2 rfl) ?_
      refine lv_iload hx hb dX12_bigDivide_81 (lv_at hl 5 rfl) ?_
      have hFc := mw_free hD hS hA
      refine va_calli (va_runV (As := [.int (hz_i y1), .int (hz_i y2), .int (hz_i x7)]) (rest := []) ⟨hx, hb, hml, hown, hts⟩ (k_bigHolds l D _ om R C z A y1 y2 x7 _ hw) (cwV 3 hts gX12_bigDivide_X12_bigHolds rfl rfl rfl (by decide +kernel) ⟨Nat.le_of_ble_eq_true rfl, Nat.le_of_ble_eq_true rfl⟩) ⟨hm_blind, va_recv hK hP (ci := 12) (q0 := 0) rfl rfl, hm_pre hP hK hD hE⟩ rfl rfl hl.1 rfl (lv_room (Nat.le_of_ble_eq_true rfl)) dX12_bigDivide_83 ⟨Nat.le_of_ble_eq_true rfl, Nat.le_of_ble_eq_true rfl⟩) hS (fun q _ h => hFc q h) hFc (fun rv u t H1 locs ht hvm hw hB hz1 hk1 hS => ?_)
      obtain ⟨r_4, _, _⟩ := u
      obtain ⟨hP, hK1, hD1⟩ := hB
      rw [ht] at hP
      obtain ⟨hrv, hw⟩ := hw
      subst hrv
      have hD := hD1.weaken (fun k q _ h => hFc q.1 h)
      have hP : va_P D vwCl (mw_w om R C z A) H1 := hP
      have hD : va_D Ad (mw_w om R C z A) := hD
      generalize H1 = H at hP hS ⊢
      refine W.eq (g2 := F0 m 86 ls [.int (hz_i r_4)]) rfl ?_
      obtain ⟨h9a, hw⟩ := hw
      refine hz_if_eq (tgt := 170) hx hb dX12_bigDivide_86 (by decide) h9a (fun c_5 => ?_) (fun c_5 => ?_)
      · have hw := hw.1 c_5
        refine lv_aload_n hx hb dX12_bigDivide_170 rfl (lv_at hl 0 rfl) ?_
        refine mw_get (v := .ref (R 0)) hx hb hts hin12 hown hK hP 0 (by decide) (hts (.fieldLink RX12 8 "HiddenMovesModel" "parts" "[I") (List.mem_cons_of_mem _ (List.mem_append_left _ (List.mem_append_left _ (List.mem_of_getElem? (i := 3) rfl))))) (fun _ h9 => h9) rfl dX12_bigDivide_171 ?_
        refine lv_iload_n hx hb dX12_bigDivide_174 rfl (lv_at hl 3 rfl) ?_
        have hFc := mw_free hD hS hA
        refine va_calli (va_runS (As := [.int (hz_i y3)]) (rest := [.ref (R 0)]) ⟨hx, hb, hml, hown, hts⟩ (k_from l D _ om R C z A y3 _ hw) (va_cwS 1 hts gX12_bigDivide_X12_from rfl rfl rfl (by decide +kernel) ⟨Nat.le_of_ble_eq_true rfl, Nat.le_of_ble_eq_true rfl⟩) ⟨hm_blind, hm_pre hP hK hD hE⟩ rfl rfl hl.1 rfl (lv_room (Nat.le_of_ble_eq_true rfl)) dX12_bigDivide_175 ⟨Nat.le_of_ble_eq_true rfl, Nat.le_of_ble_eq_true rfl⟩) hS (fun q _ h => hFc q h) hFc (fun rv u t H1 locs ht hvm hw hB hz1 hk1 hS => ?_)
        obtain ⟨r_6, _, _⟩ := u
        obtain ⟨hP, hK1, hD1⟩ := hB
        rw [ht] at hP
        obtain ⟨hrv, hw⟩ := hw
        subst hrv
        have hD := hD1.weaken (fun k q _ h => hFc q.1 h)
        have hP : va_P D vwCl (mw_w om R C z A) H1 := hP
        have hD : va_D Ad (mw_w om R C z A) := hD
        generalize H1 = H at hP hS ⊢
        refine W.eq (g2 := F0 m 178 ls [.int (hz_i r_6), .ref (R 0)]) rfl ?_
        refine lv_iload hx hb dX12_bigDivide_178 (lv_at hl 5 rfl) ?_
        refine hz_iadd hx hb dX12_bigDivide_180 ?_
        refine lv_lload hx hb dX12_bigDivide_181 (lv_at hl 6 rfl) ?_
        refine hz_wl2i hx hb dX12_bigDivide_183 ?_
        obtain ⟨h9i, hw⟩ := hw
        refine mw_ist (k := 0) (n := 553480) (i := r_6 + x7) (v := x8) hx hb hK hP hD hS 1 0 rfl rfl (mw_a0 om R C z A) h9i (by decide) dX12_bigDivide_184 (fun H locs hP hD hS => ?_)
        obtain ⟨A_7, hA_7⟩ : ∃ y : Nat → Nat → Int, y = hz_s A 0 (r_6 + x7) x8 := ⟨_, rfl⟩
        rw [← hA_7] at hP hD
        have hw := hw A_7 hA_7
        obtain ⟨x7_8, hx7_8⟩ : ∃ y : Int, y = x7 + (-1) := ⟨_, rfl⟩
        have hw := hw x7_8 hx7_8
        refine lv_iinc (v := hz_i x7_8) (lv' := [(7, .int (hz_i x7_8)), (0, .ref om), (1, .int (hz_i y1)), (2, .int (hz_i y2)), (3, .int (hz_i y3)), (5, .long (hz_l x5)), (8, .long (hz_l x8))]) hx hb dX12_bigDivide_185 hl (k := 5) rfl (by rw [hx7_8]; exact hz_i_add _ _) (by decide) rfl (fun ls hl => ?_)
        refine lv_goto (tgt := 70) hx hb dX12_bigDivide_188 (by decide) ?_
        exact (hP70 A_7 x7_8).mp hw H locs ls hP hD hS (lv_sub hl [1, 2, 3, 4, 5, 0] rfl)
      · have hw := hw.2 c_5
        refine lv_aload_n hx hb dX12_bigDivide_89 rfl (lv_at hl 0 rfl) ?_
        refine lv_iload_n hx hb dX12_bigDivide_90 rfl (lv_at hl 1 rfl) ?_
        refine lv_iload hx hb dX12_bigDivide_91 (lv_at hl 5 rfl) ?_
        refine lv_aload_n hx hb dX12_bigDivide_93 rfl (lv_at hl 0 rfl) ?_
        refine mw_get (v := .ref (R 1)) hx hb hts hin12 hown hK hP 1 (by decide) (hts (.fieldLink RX12 18 "HiddenMovesModel" "lengths" "[I") (List.mem_cons_of_mem _ (List.mem_append_left _ (List.mem_append_left _ (List.mem_of_getElem? (i := 1) rfl))))) (fun _ h9 => h9) rfl dX12_bigDivide_94 ?_
        refine lv_iload_n hx hb dX12_bigDivide_97 rfl (lv_at hl 2 rfl) ?_
        obtain ⟨h9i, hw⟩ := hw
        refine mw_ild (k := 1) (n := 4250) (i := y2) hx hb hK hP 2 1 rfl rfl h9i (by decide) dX12_bigDivide_98 ?_
        refine hz_iadd hx hb dX12_bigDivide_99 ?_
        have hFc := mw_free hD hS hA
        refine va_calli (va_runV (As := [.int (hz_i y1), .int (hz_i (x7 + (A 1 (y2.toNat))))]) (rest := []) ⟨hx, hb, hml, hown, hts⟩ (k_bigAt l D _ om R C z A y1 (x7 + (A 1 (y2.toNat))) _ hw) (cwV 2 hts gX12_bigDivide_X12_bigAt rfl rfl rfl (by decide +kernel) ⟨Nat.le_of_ble_eq_true rfl, Nat.le_of_ble_eq_true rfl⟩) ⟨hm_blind, va_recv hK hP (ci := 12) (q0 := 0) rfl rfl, hm_pre hP hK hD hE⟩ rfl rfl hl.1 rfl (lv_room (Nat.le_of_ble_eq_true rfl)) dX12_bigDivide_100 ⟨Nat.le_of_ble_eq_true rfl, Nat.le_of_ble_eq_true rfl⟩) hS (fun q _ h => hFc q h) hFc (fun rv u t H1 locs ht hvm hw hB hz1 hk1 hS => ?_)
        obtain ⟨r_9, _, _⟩ := u
        obtain ⟨hP, hK1, hD1⟩ := hB
        rw [ht] at hP
        obtain ⟨hrv, hw⟩ := hw
        subst hrv
        have hD := hD1.weaken (fun k q _ h => hFc q.1 h)
        have hP : va_P D vwCl (mw_w om R C z A) H1 := hP
        have hD : va_D Ad (mw_w om R C z A) := hD
        generalize H1 = H at hP hS ⊢
        refine W.eq (g2 := F0 m 103 ls [.int (hz_i r_9)]) rfl ?_
        obtain ⟨h9a, hw⟩ := hw
        refine hz_wi2l hx hb dX12_bigDivide_103 h9a ?_
        refine lv_ldc2 hx hb hown (hts (.constantLong RX12 44 (16777216)) (List.mem_cons_of_mem _ (List.mem_append_left _ (List.mem_append_left _ (List.mem_of_getElem? (i := 2) rfl))))) dX12_bigDivide_104 ?_
        refine hz_asl (b := 16777216) (by decide +kernel) ?_
        refine hz_lmul hx hb dX12_bigDivide_107 ?_
        refine lv_aload_n hx hb dX12_bigDivide_108 rfl (lv_at hl 0 rfl) ?_
        refine lv_iload_n hx hb dX12_bigDivide_109 rfl (lv_at hl 1 rfl) ?_
        refine lv_iload hx hb dX12_bigDivide_110 (lv_at hl 5 rfl) ?_
        refine lv_aload_n hx hb dX12_bigDivide_112 rfl (lv_at hl 0 rfl) ?_
        refine mw_get (v := .ref (R 1)) hx hb hts hin12 hown hK hP 1 (by decide) (hts (.fieldLink RX12 18 "HiddenMovesModel" "lengths" "[I") (List.mem_cons_of_mem _ (List.mem_append_left _ (List.mem_append_left _ (List.mem_of_getElem? (i := 1) rfl))))) (fun _ h9 => h9) rfl dX12_bigDivide_113 ?_
        refine lv_iload_n hx hb dX12_bigDivide_116 rfl (lv_at hl 2 rfl) ?_
        obtain ⟨h9i, hw⟩ := hw
        refine mw_ild (k := 1) (n := 4250) (i := y2) hx hb hK hP 2 1 rfl rfl h9i (by decide) dX12_bigDivide_117 ?_
        refine hz_iadd hx hb dX12_bigDivide_118 ?_
        refine lv_iconst (v := hz_i 1) hx hb dX12_bigDivide_119 (by decide +kernel) ?_
        refine hz_isub hx hb dX12_bigDivide_120 ?_
        have hFc := mw_free hD hS hA
        refine va_calli (va_runV (As := [.int (hz_i y1), .int (hz_i ((x7 + (A 1 (y2.toNat))) - 1))]) (rest := [.long (hz_l (r_9 * 16777216))]) ⟨hx, hb, hml, hown, hts⟩ (k_bigAt l D _ om R C z A y1 ((x7 + (A 1 (y2.toNat))) - 1) _ hw) (cwV 2 hts gX12_bigDivide_X12_bigAt rfl rfl rfl (by decide +kernel) ⟨Nat.le_of_ble_eq_true rfl, Nat.le_of_ble_eq_true rfl⟩) ⟨hm_blind, va_recv hK hP (ci := 12) (q0 := 0) rfl rfl, hm_pre hP hK hD hE⟩ rfl rfl hl.1 rfl (lv_room (Nat.le_of_ble_eq_true rfl)) dX12_bigDivide_121 ⟨Nat.le_of_ble_eq_true rfl, Nat.le_of_ble_eq_true rfl⟩) hS (fun q _ h => hFc q h) hFc (fun rv u t H1 locs ht hvm hw hB hz1 hk1 hS => ?_)
        obtain ⟨r_10, _, _⟩ := u
        obtain ⟨hP, hK1, hD1⟩ := hB
        rw [ht] at hP
        obtain ⟨hrv, hw⟩ := hw
        subst hrv
        have hD := hD1.weaken (fun k q _ h => hFc q.1 h)
        have hP : va_P D vwCl (mw_w om R C z A) H1 := hP
        have hD : va_D Ad (mw_w om R C z A) := hD
        generalize H1 = H at hP hS ⊢
        refine W.eq (g2 := F0 m 124 ls [.int (hz_i r_10), .long (hz_l (r_9 * 16777216))]) rfl ?_
        obtain ⟨h9a, hw⟩ := hw
        refine hz_wi2l hx hb dX12_bigDivide_124 h9a ?_
        refine hz_ladd hx hb dX12_bigDivide_125 ?_
        refine hz_topl (fun x10_11 hx10_11 => ?_)
        have hw := hw x10_11 hx10_11
        refine lv_lstore (lv' := [(10, .long (hz_l x10_11)), (0, .ref om), (1, .int (hz_i y1)), (2, .int (hz_i y2)), (3, .int (hz_i y3)), (5, .long (hz_l x5)), (7, .int (hz_i x7)), (8, .long (hz_l x8))]) hx hb dX12_bigDivide_126 hl (by decide) rfl (fun ls hl => ?_)
        refine lv_lload hx hb dX12_bigDivide_128 (lv_at hl 0 rfl) ?_
        refine lv_lload hx hb dX12_bigDivide_130 (lv_at hl 5 rfl) ?_
        obtain ⟨h9n, h9a, h9b, hw⟩ := hw
        refine hz_ldiv hx hb dX12_bigDivide_132 h9n h9a h9b ?_
        refine hz_topl (fun x12_12 hx12_12 => ?_)
        have hw := hw x12_12 hx12_12
        refine lv_lstore (lv' := [(12, .long (hz_l x12_12)), (10, .long (hz_l x10_11)), (0, .ref om), (1, .int (hz_i y1)), (2, .int (hz_i y2)), (3, .int (hz_i y3)), (5, .long (hz_l x5)), (7, .int (hz_i x7)), (8, .long (hz_l x8))]) hx hb dX12_bigDivide_133 hl (by decide) rfl (fun ls hl => ?_)
        refine lv_lload hx hb dX12_bigDivide_135 (lv_at hl 0 rfl) ?_
        refine lv_lconst (v := hz_l 1) hx hb dX12_bigDivide_137 (by decide +kernel) ?_
        obtain ⟨h9a, hw⟩ := hw
        refine hz_lcmp_ge (tgt := 146) hx hb dX12_bigDivide_138 dX12_bigDivide_139 (by decide) h9a ⟨by decide, by decide⟩ (fun c_13 => ?_) (fun c_13 => ?_)
        · have hw := hw.1 c_13
          refine lv_lload hx hb dX12_bigDivide_146 (lv_at hl 0 rfl) ?_
          exact L148 A x8 x12_12 hw H locs ls hP hD hS (lv_sub hl [2, 3, 4, 5, 6, 7, 8] rfl)
        · have hw := hw.2 c_13
          refine lv_lconst (v := hz_l 1) hx hb dX12_bigDivide_142 (by decide +kernel) ?_
          refine lv_goto (tgt := 148) hx hb dX12_bigDivide_143 (by decide) ?_
          exact L148 A x8 1 hw H locs ls hP hD hS (lv_sub hl [2, 3, 4, 5, 6, 7, 8] rfl)
    refine lv_iload hx hb dX12_bigDivide_70 (lv_at hl 5 rfl) ?_
    obtain ⟨h9a, hw⟩ := hw
    refine hz_if_lt (tgt := 191) hx hb dX12_bigDivide_72 (by decide) h9a (fun c_14 => ?_) (fun c_14 => ?_)
    · have hw := hw.1 c_14
      refine lv_aload_n hx hb dX12_bigDivide_191 rfl (lv_at hl 0 rfl) ?_
      refine lv_iload_n hx hb dX12_bigDivide_192 rfl (lv_at hl 3 rfl) ?_
      have hFc := mw_free hD hS hA
      refine va_callv (va_runV (As := [.int (hz_i y3)]) (rest := []) ⟨hx, hb, hml, hown, hts⟩ (k_bigTrim l D _ om R C z A y3 _ hw) (cwV 1 hts gX12_bigDivide_X12_bigTrim rfl rfl rfl (by decide +kernel) ⟨Nat.le_of_ble_eq_true rfl, Nat.le_of_ble_eq_true rfl⟩) ⟨hm_blind, va_recv hK hP (ci := 12) (q0 := 0) rfl rfl, hm_pre hP hK hD hE⟩ rfl rfl hl.1 rfl (lv_room (Nat.le_of_ble_eq_true rfl)) dX12_bigDivide_193 ⟨Nat.le_of_ble_eq_true rfl, Nat.le_of_ble_eq_true rfl⟩) hS (fun q _ h => hFc q h) hFc (fun u t H1 locs ht hvm hw hB hz1 hk1 hS => ?_)
      obtain ⟨r_15, _, A_16⟩ := u
      obtain ⟨hP, hK1, hD1⟩ := hB
      rw [ht] at hP
      have hD := hD1.weaken (fun k q _ h => hFc q.1 h)
      have hP : va_P D vwCl (mw_w om R C z A_16) H1 := hP
      have hD : va_D Ad (mw_w om R C z A_16) := hD
      generalize H1 = H at hP hS ⊢
      refine W.eq (g2 := F0 m 196 ls []) rfl ?_
      subst hQQ
      subst hAe
      exact W.vret hx hb hr (fun t ht hW => ⟨⟨(0, z, A_16), rfl, hw, by rw [ht]; exact hP, va_K.moved hW.alike hK, hD⟩, hS.F ht⟩) hS.2.2 dX12_bigDivide_196
    · have hw := hw.2 c_14
      refine lv_lconst (v := hz_l 0) hx hb dX12_bigDivide_75 (by decide +kernel) ?_
      refine lv_lstore (lv' := [(8, .long (hz_l 0)), (0, .ref om), (1, .int (hz_i y1)), (2, .int (hz_i y2)), (3, .int (hz_i y3)), (5, .long (hz_l x5)), (7, .int (hz_i x7))]) hx hb dX12_bigDivide_76 hl (by decide) rfl (fun ls hl => ?_)
      exact L78 A x7 0 hw H locs ls hP hD hS (lv_sub hl [1, 2, 3, 4, 5, 6, 0] rfl)
  have L47 : ∀ (A : Nat → Nat → Int) (x4 : Int) (t0 : Int) (t1 : Int), wp_bigDivide_47 z A y1 y2 y3 x4 t0 t1  Q → ∀ (H : Heap) (locs : List Loc) (ls : Array Slot), va_P D vwCl (mw_w om R C z A) H → va_D Ad (mw_w om R C z A) → va_S Ad s.heap H locs → lv_has ls 14 [(0, .ref om), (1, .int (hz_i y1)), (2, .int (hz_i y2)), (3, .int (hz_i y3)), (4, .int (hz_i x4))] → W p l e (headSpec wsX12_bigDivide ({ frames := 3, cells := 0, slots := 0, locals := 73 } : Room)).room s m (List.toArray [.ref om, .int (hz_i y1), .int (hz_i y2), .int (hz_i y3)]) below meth c H locs 0 0 QQ (F0 m 47 ls [.int (hz_i t0), .int (hz_i t1), .ref (R 1)]) := by
    intro A x4 t0 t1 hw H locs ls hP hD hS hl
    obtain ⟨h9i, hw⟩ := hw
    refine mw_ist (k := 1) (n := 4250) (i := t1) (v := t0) hx hb hK hP hD hS 2 1 rfl rfl (mw_a1 om R C z A) h9i (by decide) dX12_bigDivide_47 (fun H locs hP hD hS => ?_)
    obtain ⟨A_17, hA_17⟩ : ∃ y : Nat → Nat → Int, y = hz_s A 1 t1 t0 := ⟨_, rfl⟩
    rw [← hA_17] at hP hD
    have hw := hw A_17 hA_17
    refine lv_aload_n hx hb dX12_bigDivide_48 rfl (lv_at hl 0 rfl) ?_
    refine lv_iload_n hx hb dX12_bigDivide_49 rfl (lv_at hl 2 rfl) ?_
    refine lv_aload_n hx hb dX12_bigDivide_50 rfl (lv_at hl 0 rfl) ?_
    refine mw_get (v := .ref (R 1)) hx hb hts hin12 hown hK hP 1 (by decide) (hts (.fieldLink RX12 18 "HiddenMovesModel" "lengths" "[I") (List.mem_cons_of_mem _ (List.mem_append_left _ (List.mem_append_left _ (List.mem_of_getElem? (i := 1) rfl))))) (fun _ h9 => h9) rfl dX12_bigDivide_51 ?_
    refine lv_iload_n hx hb dX12_bigDivide_54 rfl (lv_at hl 2 rfl) ?_
    obtain ⟨h9i, hw⟩ := hw
    refine mw_ild (k := 1) (n := 4250) (i := y2) hx hb hK hP 2 1 rfl rfl h9i (by decide) dX12_bigDivide_55 ?_
    refine lv_iconst (v := hz_i 1) hx hb dX12_bigDivide_56 (by decide +kernel) ?_
    refine hz_isub hx hb dX12_bigDivide_57 ?_
    have hFc := mw_free hD hS hA
    refine va_calli (va_runV (As := [.int (hz_i y2), .int (hz_i ((A_17 1 (y2.toNat)) - 1))]) (rest := []) ⟨hx, hb, hml, hown, hts⟩ (k_bigAt l D _ om R C z A_17 y2 ((A_17 1 (y2.toNat)) - 1) _ hw) (cwV 2 hts gX12_bigDivide_X12_bigAt rfl rfl rfl (by decide +kernel) ⟨Nat.le_of_ble_eq_true rfl, Nat.le_of_ble_eq_true rfl⟩) ⟨hm_blind, va_recv hK hP (ci := 12) (q0 := 0) rfl rfl, hm_pre hP hK hD hE⟩ rfl rfl hl.1 rfl (lv_room (Nat.le_of_ble_eq_true rfl)) dX12_bigDivide_58 ⟨Nat.le_of_ble_eq_true rfl, Nat.le_of_ble_eq_true rfl⟩) hS (fun q _ h => hFc q h) hFc (fun rv u t H1 locs ht hvm hw hB hz1 hk1 hS => ?_)
    obtain ⟨r_18, _, _⟩ := u
    obtain ⟨hP, hK1, hD1⟩ := hB
    rw [ht] at hP
    obtain ⟨hrv, hw⟩ := hw
    subst hrv
    have hD := hD1.weaken (fun k q _ h => hFc q.1 h)
    have hP : va_P D vwCl (mw_w om R C z A_17) H1 := hP
    have hD : va_D Ad (mw_w om R C z A_17) := hD
    generalize H1 = H at hP hS ⊢
    refine W.eq (g2 := F0 m 61 ls [.int (hz_i r_18)]) rfl ?_
    obtain ⟨h9a, hw⟩ := hw
    refine hz_wi2l hx hb dX12_bigDivide_61 h9a ?_
    refine lv_lconst (v := hz_l 1) hx hb dX12_bigDivide_62 (by decide +kernel) ?_
    refine hz_ladd hx hb dX12_bigDivide_63 ?_
    refine hz_topl (fun x5_19 hx5_19 => ?_)
    have hw := hw x5_19 hx5_19
    refine lv_lstore (lv' := [(5, .long (hz_l x5_19)), (0, .ref om), (1, .int (hz_i y1)), (2, .int (hz_i y2)), (3, .int (hz_i y3)), (4, .int (hz_i x4))]) hx hb dX12_bigDivide_64 hl (by decide) rfl (fun ls hl => ?_)
    refine lv_iload hx hb dX12_bigDivide_66 (lv_at hl 5 rfl) ?_
    refine lv_istore (lv' := [(7, .int (hz_i x4)), (5, .long (hz_l x5_19)), (0, .ref om), (1, .int (hz_i y1)), (2, .int (hz_i y2)), (3, .int (hz_i y3)), (4, .int (hz_i x4))]) hx hb dX12_bigDivide_68 hl (by decide) rfl (fun ls hl => ?_)
    exact L70 A_17 x5_19 x4 hw H locs ls hP hD hS (lv_sub hl [2, 3, 4, 5, 1, 0] rfl)
  have hP := hP0; have hD := hD0; have hS := hS0; have hl := hl0; have hw := hw0
  obtain ⟨H, hH⟩ : ∃ H : Heap, H = s.heap := ⟨_, rfl⟩
  obtain ⟨locs, hlocs⟩ : ∃ L : List Loc, L = [] := ⟨_, rfl⟩
  rw [← hH] at hP
  have hS : va_S Ad s.heap H locs := by rw [hH, hlocs]; exact hS
  refine mw_HL hH hlocs ?_
  refine lv_aload_n hx hb dX12_bigDivide_0 rfl (lv_at hl 0 rfl) ?_
  refine mw_get (v := .ref (R 2)) hx hb hts hin12 hown hK hP 2 (by decide) (hts (.fieldLink RX12 4 "HiddenMovesModel" "minus" "[Z") (List.mem_cons_of_mem _ (List.mem_append_left _ (List.mem_append_left _ (List.mem_of_getElem? (i := 0) rfl))))) (fun _ h9 => h9) rfl dX12_bigDivide_1 ?_
  refine lv_iload_n hx hb dX12_bigDivide_4 rfl (lv_at hl 1 rfl) ?_
  refine lv_iconst (v := hz_i 0) hx hb dX12_bigDivide_5 (by decide +kernel) ?_
  obtain ⟨h9i, hw⟩ := hw
  refine mw_zst (k := 2) (n := 4250) (i := y1) (v := 0) hx hb hK hP hD hS 3 2 rfl rfl (mw_a2 om R C z A) h9i (by decide) (by decide) dX12_bigDivide_6 (fun H locs hP hD hS => ?_)
  obtain ⟨A_20, hA_20⟩ : ∃ y : Nat → Nat → Int, y = hz_s A 2 y1 0 := ⟨_, rfl⟩
  rw [← hA_20] at hP hD
  have hw := hw A_20 hA_20
  refine lv_aload_n hx hb dX12_bigDivide_7 rfl (lv_at hl 0 rfl) ?_
  refine mw_get (v := .ref (R 2)) hx hb hts hin12 hown hK hP 2 (by decide) (hts (.fieldLink RX12 4 "HiddenMovesModel" "minus" "[Z") (List.mem_cons_of_mem _ (List.mem_append_left _ (List.mem_append_left _ (List.mem_of_getElem? (i := 0) rfl))))) (fun _ h9 => h9) rfl dX12_bigDivide_8 ?_
  refine lv_iload_n hx hb dX12_bigDivide_11 rfl (lv_at hl 3 rfl) ?_
  refine lv_iconst (v := hz_i 0) hx hb dX12_bigDivide_12 (by decide +kernel) ?_
  obtain ⟨h9i, hw⟩ := hw
  refine mw_zst (k := 2) (n := 4250) (i := y3) (v := 0) hx hb hK hP hD hS 3 2 rfl rfl (mw_a2 om R C z A_20) h9i (by decide) (by decide) dX12_bigDivide_13 (fun H locs hP hD hS => ?_)
  obtain ⟨A_21, hA_21⟩ : ∃ y : Nat → Nat → Int, y = hz_s A_20 2 y3 0 := ⟨_, rfl⟩
  rw [← hA_21] at hP hD
  have hw := hw A_21 hA_21
  refine lv_aload_n hx hb dX12_bigDivide_14 rfl (lv_at hl 0 rfl) ?_
  refine mw_get (v := .ref (R 1)) hx hb hts hin12 hown hK hP 1 (by decide) (hts (.fieldLink RX12 18 "HiddenMovesModel" "lengths" "[I") (List.mem_cons_of_mem _ (List.mem_append_left _ (List.mem_append_left _ (List.mem_of_getElem? (i := 1) rfl))))) (fun _ h9 => h9) rfl dX12_bigDivide_15 ?_
  refine lv_iload_n hx hb dX12_bigDivide_18 rfl (lv_at hl 1 rfl) ?_
  obtain ⟨h9i, hw⟩ := hw
  refine mw_ild (k := 1) (n := 4250) (i := y1) hx hb hK hP 2 1 rfl rfl h9i (by decide) dX12_bigDivide_19 ?_
  refine lv_aload_n hx hb dX12_bigDivide_20 rfl (lv_at hl 0 rfl) ?_
  refine mw_get (v := .ref (R 1)) hx hb hts hin12 hown hK hP 1 (by decide) (hts (.fieldLink RX12 18 "HiddenMovesModel" "lengths" "[I") (List.mem_cons_of_mem _ (List.mem_append_left _ (List.mem_append_left _ (List.mem_of_getElem? (i := 1) rfl))))) (fun _ h9 => h9) rfl dX12_bigDivide_21 ?_
  refine lv_iload_n hx hb dX12_bigDivide_24 rfl (lv_at hl 2 rfl) ?_
  obtain ⟨h9i, hw⟩ := hw
  refine mw_ild (k := 1) (n := 4250) (i := y2) hx hb hK hP 2 1 rfl rfl h9i (by decide) dX12_bigDivide_25 ?_
  refine hz_isub hx hb dX12_bigDivide_26 ?_
  refine hz_topi (fun x4_22 hx4_22 => ?_)
  have hw := hw x4_22 hx4_22
  refine lv_istore (lv' := [(4, .int (hz_i x4_22)), (0, .ref om), (1, .int (hz_i y1)), (2, .int (hz_i y2)), (3, .int (hz_i y3))]) hx hb dX12_bigDivide_27 hl (by decide) rfl (fun ls hl => ?_)
  refine lv_aload_n hx hb dX12_bigDivide_29 rfl (lv_at hl 1 rfl) ?_
  refine mw_get (v := .ref (R 1)) hx hb hts hin12 hown hK hP 1 (by decide) (hts (.fieldLink RX12 18 "HiddenMovesModel" "lengths" "[I") (List.mem_cons_of_mem _ (List.mem_append_left _ (List.mem_append_left _ (List.mem_of_getElem? (i := 1) rfl))))) (fun _ h9 => h9) rfl dX12_bigDivide_30 ?_
  refine lv_iload_n hx hb dX12_bigDivide_33 rfl (lv_at hl 4 rfl) ?_
  refine lv_iload hx hb dX12_bigDivide_34 (lv_at hl 0 rfl) ?_
  obtain ⟨h9a, hw⟩ := hw
  refine hz_if_ge (tgt := 43) hx hb dX12_bigDivide_36 (by decide) h9a (fun c_23 => ?_) (fun c_23 => ?_)
  · have hw := hw.1 c_23
    refine lv_iload hx hb dX12_bigDivide_43 (lv_at hl 0 rfl) ?_
    refine lv_iconst (v := hz_i 1) hx hb dX12_bigDivide_45 (by decide +kernel) ?_
    refine hz_iadd hx hb dX12_bigDivide_46 ?_
    exact L47 A_21 x4_22 (x4_22 + 1) y3 hw H locs ls hP hD hS (lv_sub hl [1, 2, 3, 4, 0] rfl)
  · have hw := hw.2 c_23
    refine lv_iconst (v := hz_i 0) hx hb dX12_bigDivide_39 (by decide +kernel) ?_
    refine lv_goto (tgt := 47) hx hb dX12_bigDivide_40 (by decide) ?_
    exact L47 A_21 x4_22 0 y3 hw H locs ls hP hD hS (lv_sub hl [1, 2, 3, 4, 0] rfl)

noncomputable def wp_bigTenth_11 (z : Nat → Int) (A : Nat → Nat → Int) (y1 : Int) (x2 : Int) (x3 : Int) (Q : Int → (Nat → Nat → Int) → Prop) : Prop := ∀ P11 : (Nat → Nat → Int) → Int → Int → Prop, (∀ (A : Nat → Nat → Int) (x2 : Int) (x3 : Int), hz_rI x3 ∧ ((x3 < 0 → wp_bigTrim z A y1 (fun A_3 => Q x2 A_3)) ∧ (¬ (x3 < 0) → wp_from z A y1 (fun r_4 => (0 ≤ r_4 + x3 ∧ r_4 + x3 < 553480) ∧ ∀ x4_5 : Int, x4_5 = (x2 * 16777216) + (A 0 ((r_4 + x3).toNat)) → wp_from z A y1 (fun r_6 => hz_rI x4_5 ∧ (0 ≤ r_6 + x3 ∧ r_6 + x3 < 553480) ∧ ∀ A_7 : Nat → Nat → Int, A_7 = hz_s A 0 (r_6 + x3) (x4_5.tdiv 10) → hz_rI x4_5 ∧ ∀ x2_8 : Int, x2_8 = x4_5.tmod 10 → ∀ x3_9 : Int, x3_9 = x3 + (-1) → P11 A_7 x2_8 x3_9)))) → P11 A x2 x3) → P11 A x2 x3
noncomputable def wp_bigTenth (z : Nat → Int) (A : Nat → Nat → Int) (y1 : Int) (Q : Int → (Nat → Nat → Int) → Prop) : Prop := (0 ≤ y1 ∧ y1 < 4250) ∧ ∀ x3_10 : Int, x3_10 = (A 1 (y1.toNat)) - 1 → wp_bigTenth_11 z A y1 0 x3_10  Q
set_option maxHeartbeats 4000000 in
set_option maxRecDepth 100000 in
theorem k_bigTenth (l : Launch) (D : va_G) (sz : Nat) (om : Nat) (R : Nat → Nat) (C : Nat → ClassId) (z : Nat → Int) (A : Nat → Nat → Int) (y1 : Int) (Q : Int → (Nat → Nat → Int) → Prop) (hw : wp_bigTenth z A y1 Q) : Met l yX12_bigTenth wsX12_bigTenth ({ frames := 2, cells := 0, slots := 0, locals := 41 } : Room) (va_Pc [.ref om, .int (hz_i y1)] (hm_P D (mw_w om R C z A) (mw_t C) sz)) (va_Qi (S := Int × (Nat → Int) × (Nat → Nat → Int)) (fun r u => r = hz_i u.1 ∧ Q u.1 u.2.2) (fun u t => hm_B D (va_A (mw_w om R C z A) sz) (mw_w om R C z u.2.2) (mw_t C) t) (va_A (mw_w om R C z A) sz)) 0 0 (va_A (mw_w om R C z A) sz) := by
  refine Met.ofW (cc := cX12_bigTenth) (maxL := 5) (ret := (some .int)) (by decide) rfl ?_
  intro p e s m args below meth c s₁ B hml hv
  obtain ⟨rfl, hsz, hP, hK, hD0, hE⟩ := hv
  have hx := B.exec
  have hb := B.bytes
  have hr := B.returns
  have hts := atoms_spec (ws := wsX12_bigTenth) B.pre
  have hown : s.vm.findClass RX12 = some m.cls := findClass_of_methodNamed B.named
  have hlocks := B.notSynchronized
  have hin12 : ∀ w ∈ u_ws RX12 TX12 58, w ∈ wsX12_bigTenth := fun w h => List.mem_cons_of_mem _ (List.mem_append_right _ (h))
  subst hsz
  have hD := hD0.self (sz := s.heap.size)
  generalize hAe : va_A (mw_w om R C z A) s.heap.size = Ad at hD ⊢
  have hA : ∀ q : Nat, s.heap.size ≤ q → Ad q := fun q h => by rw [← hAe]; exact Or.inr h
  have hS : va_S Ad s.heap s.heap [] := va_S.rf
  have hl := lv_entry ([.ref om, .int (hz_i y1)]) (n := 5) (Nat.le_of_ble_eq_true rfl)
  rw [lg_entry_eq]
  generalize (lg_sl ([.ref om, .int (hz_i y1)]) ++ List.replicate (5 - (lg_sl ([.ref om, .int (hz_i y1)])).length) Slot.unset).toArray = ls at hl ⊢
  have hl : lv_has ls 5 [(0, .ref om), (1, .int (hz_i y1))] := hl
  refine mw_Q (fun QQ hQQ => ?_)
  have hP0 := hP; have hD0 := hD; have hS0 := hS; have hl0 := hl; have hw0 := hw
  clear hP hD hS hl hw
  have L11 : ∀ (A : Nat → Nat → Int) (x2 : Int) (x3 : Int), wp_bigTenth_11 z A y1 x2 x3  Q → ∀ (H : Heap) (locs : List Loc) (ls : Array Slot), va_P D vwCl (mw_w om R C z A) H → va_D Ad (mw_w om R C z A) → va_S Ad s.heap H locs → lv_has ls 5 [(0, .ref om), (1, .int (hz_i y1)), (2, .int (hz_i x2)), (3, .int (hz_i x3))] → W p l e (headSpec wsX12_bigTenth ({ frames := 2, cells := 0, slots := 0, locals := 41 } : Room)).room s m (List.toArray [.ref om, .int (hz_i y1)]) below meth c H locs 0 0 QQ (F0 m 11 ls []) := by
    intro A x2 x3 hw
    obtain ⟨P11, hP11⟩ : ∃ P : (Nat → Nat → Int) → Int → Int → Prop, ∀ (A : Nat → Nat → Int) (x2 : Int) (x3 : Int), P A x2 x3 ↔ (∀ (H : Heap) (locs : List Loc) (ls : Array Slot), va_P D vwCl (mw_w om R C z A) H → va_D Ad (mw_w om R C z A) → va_S Ad s.heap H locs → lv_has ls 5 [(0, .ref om), (1, .int (hz_i y1)), (2, .int (hz_i x2)), (3, .int (hz_i x3))] → W p l e (headSpec wsX12_bigTenth ({ frames := 2, cells := 0, slots := 0, locals := 41 } : Room)).room s m (List.toArray [.ref om, .int (hz_i y1)]) below meth c H locs 0 0 QQ (F0 m 11 ls [])) := ⟨fun (A : Nat → Nat → Int) (x2 : Int) (x3 : Int) => ∀ (H : Heap) (locs : List Loc) (ls : Array Slot), va_P D vwCl (mw_w om R C z A) H → va_D Ad (mw_w om R C z A) → va_S Ad s.heap H locs → lv_has ls 5 [(0, .ref om), (1, .int (hz_i y1)), (2, .int (hz_i x2)), (3, .int (hz_i x3))] → W p l e (headSpec wsX12_bigTenth ({ frames := 2, cells := 0, slots := 0, locals := 41 } : Room)).room s m (List.toArray [.ref om, .int (hz_i y1)]) below meth c H locs 0 0 QQ (F0 m 11 ls []), fun _ _ _ => Iff.rfl⟩
    refine (hP11 A x2 x3).mp (hw P11 ?_)
    intro A x2 x3 hw
    refine (hP11 A x2 x3).mpr ?_
    intro H locs ls hP hD hS hl
    refine lv_iload_n hx hb dX12_bigTenth_11 rfl (lv_at hl 3 rfl) ?_
    obtain ⟨h9a, hw⟩ := hw
    refine hz_if_lt (tgt := 61) hx hb dX12_bigTenth_12 (by decide) h9a (fun c_1 => ?_) (fun c_1 => ?_)
    · have hw := hw.1 c_1
      refine lv_aload_n hx hb dX12_bigTenth_61 rfl (lv_at hl 0 rfl) ?_
      refine lv_iload_n hx hb dX12_bigTenth_62 rfl (lv_at hl 1 rfl) ?_
      have hFc := mw_free hD hS hA
      refine va_callv (va_runV (As := [.int (hz_i y1)]) (rest := []) ⟨hx, hb, hml, hown, hts⟩ (k_bigTrim l D _ om R C z A y1 _ hw) (cwV 1 hts gX12_bigTenth_X12_bigTrim rfl rfl rfl (by decide +kernel) ⟨Nat.le_of_ble_eq_true rfl, Nat.le_of_ble_eq_true rfl⟩) ⟨hm_blind, va_recv hK hP (ci := 12) (q0 := 0) rfl rfl, hm_pre hP hK hD hE⟩ rfl rfl hl.1 rfl (lv_room (Nat.le_of_ble_eq_true rfl)) dX12_bigTenth_63 ⟨Nat.le_of_ble_eq_true rfl, Nat.le_of_ble_eq_true rfl⟩) hS (fun q _ h => hFc q h) hFc (fun u t H1 locs ht hvm hw hB hz1 hk1 hS => ?_)
      obtain ⟨r_2, _, A_3⟩ := u
      obtain ⟨hP, hK1, hD1⟩ := hB
      rw [ht] at hP
      have hD := hD1.weaken (fun k q _ h => hFc q.1 h)
      have hP : va_P D vwCl (mw_w om R C z A_3) H1 := hP
      have hD : va_D Ad (mw_w om R C z A_3) := hD
      generalize H1 = H at hP hS ⊢
      refine W.eq (g2 := F0 m 66 ls []) rfl ?_
      refine lv_iload_n hx hb dX12_bigTenth_66 rfl (lv_at hl 2 rfl) ?_
      subst hQQ
      subst hAe
      exact W.iret (v := hz_i x2) hx hb hr (fun t ht hW => ⟨⟨hz_i x2, (x2, z, A_3), rfl, ⟨rfl, hw⟩, by rw [ht]; exact hP, va_K.moved hW.alike hK, hD⟩, hS.F ht⟩) hS.2.2 dX12_bigTenth_67
    · have hw := hw.2 c_1
      refine lv_iload_n hx hb dX12_bigTenth_15 rfl (lv_at hl 2 rfl) ?_
      refine lv_ldc hx hb hown (hts (.constant RX12 31 (16777216)) (List.mem_cons_of_mem _ (List.mem_append_left _ (List.mem_of_getElem? (i := 1) rfl)))) dX12_bigTenth_16 ?_
      refine hz_asi (b := 16777216) (by decide +kernel) ?_
      refine hz_imul hx hb dX12_bigTenth_18 ?_
      refine lv_aload_n hx hb dX12_bigTenth_19 rfl (lv_at hl 0 rfl) ?_
      refine mw_get (v := .ref (R 0)) hx hb hts hin12 hown hK hP 0 (by decide) (hts (.fieldLink RX12 8 "HiddenMovesModel" "parts" "[I") (List.mem_cons_of_mem _ (List.mem_append_left _ (List.mem_of_getElem? (i := 2) rfl)))) (fun _ h9 => h9) rfl dX12_bigTenth_20 ?_
      refine lv_iload_n hx hb dX12_bigTenth_23 rfl (lv_at hl 1 rfl) ?_
      have hFc := mw_free hD hS hA
      refine va_calli (va_runS (As := [.int (hz_i y1)]) (rest := [.ref (R 0), .int (hz_i (x2 * 16777216))]) ⟨hx, hb, hml, hown, hts⟩ (k_from l D _ om R C z A y1 _ hw) (va_cwS 1 hts gX12_bigTenth_X12_from rfl rfl rfl (by decide +kernel) ⟨Nat.le_of_ble_eq_true rfl, Nat.le_of_ble_eq_true rfl⟩) ⟨hm_blind, hm_pre hP hK hD hE⟩ rfl rfl hl.1 rfl (lv_room (Nat.le_of_ble_eq_true rfl)) dX12_bigTenth_24 ⟨Nat.le_of_ble_eq_true rfl, Nat.le_of_ble_eq_true rfl⟩) hS (fun q _ h => hFc q h) hFc (fun rv u t H1 locs ht hvm hw hB hz1 hk1 hS => ?_)
      obtain ⟨r_4, _, _⟩ := u
      obtain ⟨hP, hK1, hD1⟩ := hB
      rw [ht] at hP
      obtain ⟨hrv, hw⟩ := hw
      subst hrv
      have hD := hD1.weaken (fun k q _ h => hFc q.1 h)
      have hP : va_P D vwCl (mw_w om R C z A) H1 := hP
      have hD : va_D Ad (mw_w om R C z A) := hD
      generalize H1 = H at hP hS ⊢
      refine W.eq (g2 := F0 m 27 ls [.int (hz_i r_4), .ref (R 0), .int (hz_i (x2 * 16777216))]) rfl ?_
      refine lv_iload_n hx hb dX12_bigTenth_27 rfl (lv_at hl 3 rfl) ?_
      refine hz_iadd hx hb dX12_bigTenth_28 ?_
      obtain ⟨h9i, hw⟩ := hw
      refine mw_ild (k := 0) (n := 553480) (i := r_4 + x3) hx hb hK hP 1 0 rfl rfl h9i (by decide) dX12_bigTenth_29 ?_
      refine hz_iadd hx hb dX12_bigTenth_30 ?_
      refine hz_topi (fun x4_5 hx4_5 => ?_)
      have hw := hw x4_5 hx4_5
      refine lv_istore (lv' := [(4, .int (hz_i x4_5)), (0, .ref om), (1, .int (hz_i y1)), (2, .int (hz_i x2)), (3, .int (hz_i x3))]) hx hb dX12_bigTenth_31 hl (by decide) rfl (fun ls hl => ?_)
      refine lv_aload_n hx hb dX12_bigTenth_33 rfl (lv_at hl 1 rfl) ?_
      refine mw_get (v := .ref (R 0)) hx hb hts hin12 hown hK hP 0 (by decide) (hts (.fieldLink RX12 8 "HiddenMovesModel" "parts" "[I") (List.mem_cons_of_mem _ (List.mem_append_left _ (List.mem_of_getElem? (i := 2) rfl)))) (fun _ h9 => h9) rfl dX12_bigTenth_34 ?_
      refine lv_iload_n hx hb dX12_bigTenth_37 rfl (lv_at hl 2 rfl) ?_
      have hFc := mw_free hD hS hA
      refine va_calli (va_runS (As := [.int (hz_i y1)]) (rest := [.ref (R 0)]) ⟨hx, hb, hml, hown, hts⟩ (k_from l D _ om R C z A y1 _ hw) (va_cwS 1 hts gX12_bigTenth_X12_from rfl rfl rfl (by decide +kernel) ⟨Nat.le_of_ble_eq_true rfl, Nat.le_of_ble_eq_true rfl⟩) ⟨hm_blind, hm_pre hP hK hD hE⟩ rfl rfl hl.1 rfl (lv_room (Nat.le_of_ble_eq_true rfl)) dX12_bigTenth_38 ⟨Nat.le_of_ble_eq_true rfl, Nat.le_of_ble_eq_true rfl⟩) hS (fun q _ h => hFc q h) hFc (fun rv u t H1 locs ht hvm hw hB hz1 hk1 hS => ?_)
      obtain ⟨r_6, _, _⟩ := u
      obtain ⟨hP, hK1, hD1⟩ := hB
      rw [ht] at hP
      obtain ⟨hrv, hw⟩ := hw
      subst hrv
      have hD := hD1.weaken (fun k q _ h => hFc q.1 h)
      have hP : va_P D vwCl (mw_w om R C z A) H1 := hP
      have hD : va_D Ad (mw_w om R C z A) := hD
      generalize H1 = H at hP hS ⊢
      refine W.eq (g2 := F0 m 41 ls [.int (hz_i r_6), .ref (R 0)]) rfl ?_
      refine lv_iload_n hx hb dX12_bigTenth_41 rfl (lv_at hl 4 rfl) ?_
      refine hz_iadd hx hb dX12_bigTenth_42 ?_
      refine lv_iload hx hb dX12_bigTenth_43 (lv_at hl 0 rfl) ?_
      refine lv_bipush (v := hz_i 10) hx hb dX12_bigTenth_45 (by decide +kernel) ?_
      obtain ⟨h9a, hw⟩ := hw
      refine hz_idiv hx hb dX12_bigTenth_47 (by decide) h9a ⟨by decide, by decide⟩ ?_
      obtain ⟨h9i, hw⟩ := hw
      refine mw_ist (k := 0) (n := 553480) (i := r_6 + x3) (v := x4_5.tdiv 10) hx hb hK hP hD hS 1 0 rfl rfl (mw_a0 om R C z A) h9i (by decide) dX12_bigTenth_48 (fun H locs hP hD hS => ?_)
      obtain ⟨A_7, hA_7⟩ : ∃ y : Nat → Nat → Int, y = hz_s A 0 (r_6 + x3) (x4_5.tdiv 10) := ⟨_, rfl⟩
      rw [← hA_7] at hP hD
      have hw := hw A_7 hA_7
      refine lv_iload hx hb dX12_bigTenth_49 (lv_at hl 0 rfl) ?_
      refine lv_bipush (v := hz_i 10) hx hb dX12_bigTenth_51 (by decide +kernel) ?_
      obtain ⟨h9a, hw⟩ := hw
      refine hz_irem hx hb dX12_bigTenth_53 (by decide) h9a ⟨by decide, by decide⟩ ?_
      refine hz_topi (fun x2_8 hx2_8 => ?_)
      have hw := hw x2_8 hx2_8
      refine lv_istore_n (lv' := [(2, .int (hz_i x2_8)), (4, .int (hz_i x4_5)), (0, .ref om), (1, .int (hz_i y1)), (3, .int (hz_i x3))]) hx hb dX12_bigTenth_54 rfl hl (by decide) rfl (fun ls hl => ?_)
      obtain ⟨x3_9, hx3_9⟩ : ∃ y : Int, y = x3 + (-1) := ⟨_, rfl⟩
      have hw := hw x3_9 hx3_9
      refine lv_iinc (v := hz_i x3_9) (lv' := [(3, .int (hz_i x3_9)), (2, .int (hz_i x2_8)), (4, .int (hz_i x4_5)), (0, .ref om), (1, .int (hz_i y1))]) hx hb dX12_bigTenth_55 hl (k := 4) rfl (by rw [hx3_9]; exact hz_i_add _ _) (by decide) rfl (fun ls hl => ?_)
      refine lv_goto (tgt := 11) hx hb dX12_bigTenth_58 (by decide) ?_
      exact (hP11 A_7 x2_8 x3_9).mp hw H locs ls hP hD hS (lv_sub hl [3, 4, 1, 0] rfl)
  have hP := hP0; have hD := hD0; have hS := hS0; have hl := hl0; have hw := hw0
  obtain ⟨H, hH⟩ : ∃ H : Heap, H = s.heap := ⟨_, rfl⟩
  obtain ⟨locs, hlocs⟩ : ∃ L : List Loc, L = [] := ⟨_, rfl⟩
  rw [← hH] at hP
  have hS : va_S Ad s.heap H locs := by rw [hH, hlocs]; exact hS
  refine mw_HL hH hlocs ?_
  refine lv_iconst (v := hz_i 0) hx hb dX12_bigTenth_0 (by decide +kernel) ?_
  refine lv_istore_n (lv' := [(2, .int (hz_i 0)), (0, .ref om), (1, .int (hz_i y1))]) hx hb dX12_bigTenth_1 rfl hl (by decide) rfl (fun ls hl => ?_)
  refine lv_aload_n hx hb dX12_bigTenth_2 rfl (lv_at hl 1 rfl) ?_
  refine mw_get (v := .ref (R 1)) hx hb hts hin12 hown hK hP 1 (by decide) (hts (.fieldLink RX12 18 "HiddenMovesModel" "lengths" "[I") (List.mem_cons_of_mem _ (List.mem_append_left _ (List.mem_of_getElem? (i := 0) rfl)))) (fun _ h9 => h9) rfl dX12_bigTenth_3 ?_
  refine lv_iload_n hx hb dX12_bigTenth_6 rfl (lv_at hl 2 rfl) ?_
  obtain ⟨h9i, hw⟩ := hw
  refine mw_ild (k := 1) (n := 4250) (i := y1) hx hb hK hP 2 1 rfl rfl h9i (by decide) dX12_bigTenth_7 ?_
  refine lv_iconst (v := hz_i 1) hx hb dX12_bigTenth_8 (by decide +kernel) ?_
  refine hz_isub hx hb dX12_bigTenth_9 ?_
  refine hz_topi (fun x3_10 hx3_10 => ?_)
  have hw := hw x3_10 hx3_10
  refine lv_istore_n (lv' := [(3, .int (hz_i x3_10)), (2, .int (hz_i 0)), (0, .ref om), (1, .int (hz_i y1))]) hx hb dX12_bigTenth_10 rfl hl (by decide) rfl (fun ls hl => ?_)
  exact L11 A 0 x3_10 hw H locs ls hP hD hS (lv_sub hl [2, 3, 1, 0] rfl)

noncomputable def wp_turnSign_27 (z : Nat → Int) (A : Nat → Nat → Int) (t0 : Int) (t1 : Int) (Q : (Nat → Nat → Int) → Prop) : Prop := (0 ≤ t1 ∧ t1 < 4250) ∧ (t0 = 0 ∨ t0 = 1) ∧ ∀ A_1 : Nat → Nat → Int, A_1 = hz_s A 2 t1 t0 → Q A_1
noncomputable def wp_turnSign_26 (z : Nat → Int) (A : Nat → Nat → Int) (t0 : Int) (Q : (Nat → Nat → Int) → Prop) : Prop := wp_turnSign_27 z A 0 t0  Q
noncomputable def wp_turnSign (z : Nat → Int) (A : Nat → Nat → Int) (y1 : Int) (Q : (Nat → Nat → Int) → Prop) : Prop := (0 ≤ y1 ∧ y1 < 4250) ∧ hz_rI (A 2 (y1.toNat)) ∧ ((¬ A 2 (y1.toNat) = 0 → wp_turnSign_26 z A y1  Q) ∧ (A 2 (y1.toNat) = 0 → wp_bigIsZero z A y1 (fun r_3 => hz_rI r_3 ∧ ((¬ r_3 = 0 → wp_turnSign_26 z A y1  Q) ∧ (r_3 = 0 → wp_turnSign_27 z A 1 y1  Q)))))
set_option maxHeartbeats 4000000 in
set_option maxRecDepth 100000 in
theorem k_turnSign (l : Launch) (D : va_G) (sz : Nat) (om : Nat) (R : Nat → Nat) (C : Nat → ClassId) (z : Nat → Int) (A : Nat → Nat → Int) (y1 : Int) (Q : (Nat → Nat → Int) → Prop) (hw : wp_turnSign z A y1 Q) : Met l yX12_turnSign wsX12_turnSign ({ frames := 1, cells := 0, slots := 0, locals := 21 } : Room) (va_Pc [.ref om, .int (hz_i y1)] (hm_P D (mw_w om R C z A) (mw_t C) sz)) (va_Qv (S := Int × (Nat → Int) × (Nat → Nat → Int)) (fun u => Q u.2.2) (fun u t => hm_B D (va_A (mw_w om R C z A) sz) (mw_w om R C z u.2.2) (mw_t C) t) (va_A (mw_w om R C z A) sz)) 0 0 (va_A (mw_w om R C z A) sz) := by
  refine Met.ofW (cc := cX12_turnSign) (maxL := 2) (ret := none) (by decide) rfl ?_
  intro p e s m args below meth c s₁ B hml hv
  obtain ⟨rfl, hsz, hP, hK, hD0, hE⟩ := hv
  have hx := B.exec
  have hb := B.bytes
  have hr := B.returns
  have hts := atoms_spec (ws := wsX12_turnSign) B.pre
  have hown : s.vm.findClass RX12 = some m.cls := findClass_of_methodNamed B.named
  have hlocks := B.notSynchronized
  have hin12 : ∀ w ∈ u_ws RX12 TX12 58, w ∈ wsX12_turnSign := fun w h => List.mem_cons_of_mem _ (List.mem_append_right _ (h))
  subst hsz
  have hD := hD0.self (sz := s.heap.size)
  generalize hAe : va_A (mw_w om R C z A) s.heap.size = Ad at hD ⊢
  have hA : ∀ q : Nat, s.heap.size ≤ q → Ad q := fun q h => by rw [← hAe]; exact Or.inr h
  have hS : va_S Ad s.heap s.heap [] := va_S.rf
  have hl := lv_entry ([.ref om, .int (hz_i y1)]) (n := 2) (Nat.le_of_ble_eq_true rfl)
  rw [lg_entry_eq]
  generalize (lg_sl ([.ref om, .int (hz_i y1)]) ++ List.replicate (2 - (lg_sl ([.ref om, .int (hz_i y1)])).length) Slot.unset).toArray = ls at hl ⊢
  have hl : lv_has ls 2 [(0, .ref om), (1, .int (hz_i y1))] := hl
  refine mw_Q (fun QQ hQQ => ?_)
  have hP0 := hP; have hD0 := hD; have hS0 := hS; have hl0 := hl; have hw0 := hw
  clear hP hD hS hl hw
  have L27 : ∀ (A : Nat → Nat → Int) (t0 : Int) (t1 : Int), wp_turnSign_27 z A t0 t1  Q → ∀ (H : Heap) (locs : List Loc) (ls : Array Slot), va_P D vwCl (mw_w om R C z A) H → va_D Ad (mw_w om R C z A) → va_S Ad s.heap H locs → lv_has ls 2 [(0, .ref om)] → W p l e (headSpec wsX12_turnSign ({ frames := 1, cells := 0, slots := 0, locals := 21 } : Room)).room s m (List.toArray [.ref om, .int (hz_i y1)]) below meth c H locs 0 0 QQ (F0 m 27 ls [.int (hz_i t0), .int (hz_i t1), .ref (R 2)]) := by
    intro A t0 t1 hw H locs ls hP hD hS hl
    obtain ⟨h9i, hw⟩ := hw
    obtain ⟨h9z, hw⟩ := hw
    refine mw_zst (k := 2) (n := 4250) (i := t1) (v := t0) hx hb hK hP hD hS 3 2 rfl rfl (mw_a2 om R C z A) h9i (by decide) h9z dX12_turnSign_27 (fun H locs hP hD hS => ?_)
    obtain ⟨A_1, hA_1⟩ : ∃ y : Nat → Nat → Int, y = hz_s A 2 t1 t0 := ⟨_, rfl⟩
    rw [← hA_1] at hP hD
    have hw := hw A_1 hA_1
    subst hQQ
    subst hAe
    exact W.vret hx hb hr (fun t ht hW => ⟨⟨(0, z, A_1), rfl, hw, by rw [ht]; exact hP, va_K.moved hW.alike hK, hD⟩, hS.F ht⟩) hS.2.2 dX12_turnSign_28
  have L26 : ∀ (A : Nat → Nat → Int) (t0 : Int), wp_turnSign_26 z A t0  Q → ∀ (H : Heap) (locs : List Loc) (ls : Array Slot), va_P D vwCl (mw_w om R C z A) H → va_D Ad (mw_w om R C z A) → va_S Ad s.heap H locs → lv_has ls 2 [(0, .ref om)] → W p l e (headSpec wsX12_turnSign ({ frames := 1, cells := 0, slots := 0, locals := 21 } : Room)).room s m (List.toArray [.ref om, .int (hz_i y1)]) below meth c H locs 0 0 QQ (F0 m 26 ls [.int (hz_i t0), .ref (R 2)]) := by
    intro A t0 hw H locs ls hP hD hS hl
    refine lv_iconst (v := hz_i 0) hx hb dX12_turnSign_26 (by decide +kernel) ?_
    exact L27 A 0 t0 hw H locs ls hP hD hS (lv_sub hl [0] rfl)
  have hP := hP0; have hD := hD0; have hS := hS0; have hl := hl0; have hw := hw0
  obtain ⟨H, hH⟩ : ∃ H : Heap, H = s.heap := ⟨_, rfl⟩
  obtain ⟨locs, hlocs⟩ : ∃ L : List Loc, L = [] := ⟨_, rfl⟩
  rw [← hH] at hP
  have hS : va_S Ad s.heap H locs := by rw [hH, hlocs]; exact hS
  refine mw_HL hH hlocs ?_
  refine lv_aload_n hx hb dX12_turnSign_0 rfl (lv_at hl 0 rfl) ?_
  refine mw_get (v := .ref (R 2)) hx hb hts hin12 hown hK hP 2 (by decide) (hts (.fieldLink RX12 4 "HiddenMovesModel" "minus" "[Z") (List.mem_cons_of_mem _ (List.mem_append_left _ (List.mem_of_getElem? (i := 0) rfl)))) (fun _ h9 => h9) rfl dX12_turnSign_1 ?_
  refine lv_iload_n hx hb dX12_turnSign_4 rfl (lv_at hl 1 rfl) ?_
  refine lv_aload_n hx hb dX12_turnSign_5 rfl (lv_at hl 0 rfl) ?_
  refine mw_get (v := .ref (R 2)) hx hb hts hin12 hown hK hP 2 (by decide) (hts (.fieldLink RX12 4 "HiddenMovesModel" "minus" "[Z") (List.mem_cons_of_mem _ (List.mem_append_left _ (List.mem_of_getElem? (i := 0) rfl)))) (fun _ h9 => h9) rfl dX12_turnSign_6 ?_
  refine lv_iload_n hx hb dX12_turnSign_9 rfl (lv_at hl 1 rfl) ?_
  obtain ⟨h9i, hw⟩ := hw
  refine mw_zld (k := 2) (n := 4250) (i := y1) hx hb hK hP 3 2 rfl rfl h9i (by decide) dX12_turnSign_10 ?_
  obtain ⟨h9a, hw⟩ := hw
  refine hz_if_ne (tgt := 26) hx hb dX12_turnSign_11 (by decide) h9a (fun c_2 => ?_) (fun c_2 => ?_)
  · have hw := hw.1 c_2
    exact L26 A y1 hw H locs ls hP hD hS (lv_sub hl [0] rfl)
  · have hw := hw.2 c_2
    refine lv_aload_n hx hb dX12_turnSign_14 rfl (lv_at hl 0 rfl) ?_
    refine lv_iload_n hx hb dX12_turnSign_15 rfl (lv_at hl 1 rfl) ?_
    have hFc := mw_free hD hS hA
    refine va_calli (va_runV (As := [.int (hz_i y1)]) (rest := [.int (hz_i y1), .ref (R 2)]) ⟨hx, hb, hml, hown, hts⟩ (k_bigIsZero l D _ om R C z A y1 _ hw) (cwV 1 hts gX12_turnSign_X12_bigIsZero rfl rfl rfl (by decide +kernel) ⟨Nat.le_of_ble_eq_true rfl, Nat.le_of_ble_eq_true rfl⟩) ⟨hm_blind, va_recv hK hP (ci := 12) (q0 := 0) rfl rfl, hm_pre hP hK hD hE⟩ rfl rfl hl.1 rfl (lv_room (Nat.le_of_ble_eq_true rfl)) dX12_turnSign_16 ⟨Nat.le_of_ble_eq_true rfl, Nat.le_of_ble_eq_true rfl⟩) hS (fun q _ h => hFc q h) hFc (fun rv u t H1 locs ht hvm hw hB hz1 hk1 hS => ?_)
    obtain ⟨r_3, _, _⟩ := u
    obtain ⟨hP, hK1, hD1⟩ := hB
    rw [ht] at hP
    obtain ⟨hrv, hw⟩ := hw
    subst hrv
    have hD := hD1.weaken (fun k q _ h => hFc q.1 h)
    have hP : va_P D vwCl (mw_w om R C z A) H1 := hP
    have hD : va_D Ad (mw_w om R C z A) := hD
    generalize H1 = H at hP hS ⊢
    refine W.eq (g2 := F0 m 19 ls [.int (hz_i r_3), .int (hz_i y1), .ref (R 2)]) rfl ?_
    obtain ⟨h9a, hw⟩ := hw
    refine hz_if_ne (tgt := 26) hx hb dX12_turnSign_19 (by decide) h9a (fun c_4 => ?_) (fun c_4 => ?_)
    · have hw := hw.1 c_4
      exact L26 A y1 hw H locs ls hP hD hS (lv_sub hl [0] rfl)
    · have hw := hw.2 c_4
      refine lv_iconst (v := hz_i 1) hx hb dX12_turnSign_22 (by decide +kernel) ?_
      refine lv_goto (tgt := 27) hx hb dX12_turnSign_23 (by decide) ?_
      exact L27 A 1 y1 hw H locs ls hP hD hS (lv_sub hl [0] rfl)

noncomputable def wp_divideAll_66 (z : Nat → Int) (A : Nat → Nat → Int) (t0 : Int) (t1 : Int) (Q : (Nat → Nat → Int) → Prop) : Prop := (0 ≤ t1 ∧ t1 < 4250) ∧ (t0 = 0 ∨ t0 = 1) ∧ ∀ A_1 : Nat → Nat → Int, A_1 = hz_s A 2 t1 t0 → Q A_1
noncomputable def wp_divideAll_65 (z : Nat → Int) (A : Nat → Nat → Int) (t0 : Int) (Q : (Nat → Nat → Int) → Prop) : Prop := wp_divideAll_66 z A 0 t0  Q
noncomputable def wp_divideAll (z : Nat → Int) (A : Nat → Nat → Int) (y1 : Int) (y2 : Int) (Q : (Nat → Nat → Int) → Prop) : Prop := (0 ≤ y1 ∧ y1 < 4250) ∧ ∀ x3_2 : Int, x3_2 = A 2 (y1.toNat) → wp_bigCopy z A 4247 y1 (fun A_4 => wp_bigCopy z A_4 4248 y2 (fun A_6 => wp_bigDivide z A_6 4247 4248 4246 (fun A_8 => wp_bigCopy z A_8 y1 4246 (fun A_10 => hz_rI x3_2 ∧ ((x3_2 = 0 → wp_divideAll_65 z A_10 y1  Q) ∧ (¬ (x3_2 = 0) → wp_bigIsZero z A_10 y1 (fun r_12 => hz_rI r_12 ∧ ((¬ r_12 = 0 → wp_divideAll_65 z A_10 y1  Q) ∧ (r_12 = 0 → wp_divideAll_66 z A_10 1 y1  Q)))))))))
set_option maxHeartbeats 4000000 in
set_option maxRecDepth 100000 in
theorem k_divideAll (l : Launch) (D : va_G) (sz : Nat) (om : Nat) (R : Nat → Nat) (C : Nat → ClassId) (z : Nat → Int) (A : Nat → Nat → Int) (y1 : Int) (y2 : Int) (Q : (Nat → Nat → Int) → Prop) (hw : wp_divideAll z A y1 y2 Q) : Met l yX12_divideAll wsX12_divideAll ({ frames := 4, cells := 0, slots := 0, locals := 106 } : Room) (va_Pc [.ref om, .int (hz_i y1), .int (hz_i y2)] (hm_P D (mw_w om R C z A) (mw_t C) sz)) (va_Qv (S := Int × (Nat → Int) × (Nat → Nat → Int)) (fun u => Q u.2.2) (fun u t => hm_B D (va_A (mw_w om R C z A) sz) (mw_w om R C z u.2.2) (mw_t C) t) (va_A (mw_w om R C z A) sz)) 0 0 (va_A (mw_w om R C z A) sz) := by
  refine Met.ofW (cc := cX12_divideAll) (maxL := 4) (ret := none) (by decide) rfl ?_
  intro p e s m args below meth c s₁ B hml hv
  obtain ⟨rfl, hsz, hP, hK, hD0, hE⟩ := hv
  have hx := B.exec
  have hb := B.bytes
  have hr := B.returns
  have hts := atoms_spec (ws := wsX12_divideAll) B.pre
  have hown : s.vm.findClass RX12 = some m.cls := findClass_of_methodNamed B.named
  have hlocks := B.notSynchronized
  have hin12 : ∀ w ∈ u_ws RX12 TX12 58, w ∈ wsX12_divideAll := fun w h => List.mem_cons_of_mem _ (List.mem_append_right _ (h))
  subst hsz
  have hD := hD0.self (sz := s.heap.size)
  generalize hAe : va_A (mw_w om R C z A) s.heap.size = Ad at hD ⊢
  have hA : ∀ q : Nat, s.heap.size ≤ q → Ad q := fun q h => by rw [← hAe]; exact Or.inr h
  have hS : va_S Ad s.heap s.heap [] := va_S.rf
  have hl := lv_entry ([.ref om, .int (hz_i y1), .int (hz_i y2)]) (n := 4) (Nat.le_of_ble_eq_true rfl)
  rw [lg_entry_eq]
  generalize (lg_sl ([.ref om, .int (hz_i y1), .int (hz_i y2)]) ++ List.replicate (4 - (lg_sl ([.ref om, .int (hz_i y1), .int (hz_i y2)])).length) Slot.unset).toArray = ls at hl ⊢
  have hl : lv_has ls 4 [(0, .ref om), (1, .int (hz_i y1)), (2, .int (hz_i y2))] := hl
  refine mw_Q (fun QQ hQQ => ?_)
  have hP0 := hP; have hD0 := hD; have hS0 := hS; have hl0 := hl; have hw0 := hw
  clear hP hD hS hl hw
  have L66 : ∀ (A : Nat → Nat → Int) (t0 : Int) (t1 : Int), wp_divideAll_66 z A t0 t1  Q → ∀ (H : Heap) (locs : List Loc) (ls : Array Slot), va_P D vwCl (mw_w om R C z A) H → va_D Ad (mw_w om R C z A) → va_S Ad s.heap H locs → lv_has ls 4 [(0, .ref om)] → W p l e (headSpec wsX12_divideAll ({ frames := 4, cells := 0, slots := 0, locals := 106 } : Room)).room s m (List.toArray [.ref om, .int (hz_i y1), .int (hz_i y2)]) below meth c H locs 0 0 QQ (F0 m 66 ls [.int (hz_i t0), .int (hz_i t1), .ref (R 2)]) := by
    intro A t0 t1 hw H locs ls hP hD hS hl
    obtain ⟨h9i, hw⟩ := hw
    obtain ⟨h9z, hw⟩ := hw
    refine mw_zst (k := 2) (n := 4250) (i := t1) (v := t0) hx hb hK hP hD hS 3 2 rfl rfl (mw_a2 om R C z A) h9i (by decide) h9z dX12_divideAll_66 (fun H locs hP hD hS => ?_)
    obtain ⟨A_1, hA_1⟩ : ∃ y : Nat → Nat → Int, y = hz_s A 2 t1 t0 := ⟨_, rfl⟩
    rw [← hA_1] at hP hD
    have hw := hw A_1 hA_1
    subst hQQ
    subst hAe
    exact W.vret hx hb hr (fun t ht hW => ⟨⟨(0, z, A_1), rfl, hw, by rw [ht]; exact hP, va_K.moved hW.alike hK, hD⟩, hS.F ht⟩) hS.2.2 dX12_divideAll_67
  have L65 : ∀ (A : Nat → Nat → Int) (t0 : Int), wp_divideAll_65 z A t0  Q → ∀ (H : Heap) (locs : List Loc) (ls : Array Slot), va_P D vwCl (mw_w om R C z A) H → va_D Ad (mw_w om R C z A) → va_S Ad s.heap H locs → lv_has ls 4 [(0, .ref om)] → W p l e (headSpec wsX12_divideAll ({ frames := 4, cells := 0, slots := 0, locals := 106 } : Room)).room s m (List.toArray [.ref om, .int (hz_i y1), .int (hz_i y2)]) below meth c H locs 0 0 QQ (F0 m 65 ls [.int (hz_i t0), .ref (R 2)]) := by
    intro A t0 hw H locs ls hP hD hS hl
    refine lv_iconst (v := hz_i 0) hx hb dX12_divideAll_65 (by decide +kernel) ?_
    exact L66 A 0 t0 hw H locs ls hP hD hS (lv_sub hl [0] rfl)
  have hP := hP0; have hD := hD0; have hS := hS0; have hl := hl0; have hw := hw0
  obtain ⟨H, hH⟩ : ∃ H : Heap, H = s.heap := ⟨_, rfl⟩
  obtain ⟨locs, hlocs⟩ : ∃ L : List Loc, L = [] := ⟨_, rfl⟩
  rw [← hH] at hP
  have hS : va_S Ad s.heap H locs := by rw [hH, hlocs]; exact hS
  refine mw_HL hH hlocs ?_
  refine lv_aload_n hx hb dX12_divideAll_0 rfl (lv_at hl 0 rfl) ?_
  refine mw_get (v := .ref (R 2)) hx hb hts hin12 hown hK hP 2 (by decide) (hts (.fieldLink RX12 4 "HiddenMovesModel" "minus" "[Z") (List.mem_cons_of_mem _ (List.mem_append_left _ (List.mem_append_left _ (List.mem_of_getElem? (i := 0) rfl))))) (fun _ h9 => h9) rfl dX12_divideAll_1 ?_
  refine lv_iload_n hx hb dX12_divideAll_4 rfl (lv_at hl 1 rfl) ?_
  obtain ⟨h9i, hw⟩ := hw
  refine mw_zld (k := 2) (n := 4250) (i := y1) hx hb hK hP 3 2 rfl rfl h9i (by decide) dX12_divideAll_5 ?_
  refine hz_topi (fun x3_2 hx3_2 => ?_)
  have hw := hw x3_2 hx3_2
  refine lv_istore_n (lv' := [(3, .int (hz_i x3_2)), (0, .ref om), (1, .int (hz_i y1)), (2, .int (hz_i y2))]) hx hb dX12_divideAll_6 rfl hl (by decide) rfl (fun ls hl => ?_)
  refine lv_aload_n hx hb dX12_divideAll_7 rfl (lv_at hl 1 rfl) ?_
  refine lv_sipush (v := hz_i 4247) hx hb dX12_divideAll_8 (by decide +kernel) ?_
  refine lv_iload_n hx hb dX12_divideAll_11 rfl (lv_at hl 2 rfl) ?_
  have hFc := mw_free hD hS hA
  refine va_callv (va_runV (As := [.int (hz_i 4247), .int (hz_i y1)]) (rest := []) ⟨hx, hb, hml, hown, hts⟩ (k_bigCopy l D _ om R C z A 4247 y1 _ hw) (cwV 2 hts gX12_divideAll_X12_bigCopy rfl rfl rfl (by decide +kernel) ⟨Nat.le_of_ble_eq_true rfl, Nat.le_of_ble_eq_true rfl⟩) ⟨hm_blind, va_recv hK hP (ci := 12) (q0 := 0) rfl rfl, hm_pre hP hK hD hE⟩ rfl rfl hl.1 rfl (lv_room (Nat.le_of_ble_eq_true rfl)) dX12_divideAll_12 ⟨Nat.le_of_ble_eq_true rfl, Nat.le_of_ble_eq_true rfl⟩) hS (fun q _ h => hFc q h) hFc (fun u t H1 locs ht hvm hw hB hz1 hk1 hS => ?_)
  obtain ⟨r_3, _, A_4⟩ := u
  obtain ⟨hP, hK1, hD1⟩ := hB
  rw [ht] at hP
  have hD := hD1.weaken (fun k q _ h => hFc q.1 h)
  have hP : va_P D vwCl (mw_w om R C z A_4) H1 := hP
  have hD : va_D Ad (mw_w om R C z A_4) := hD
  generalize H1 = H at hP hS ⊢
  refine W.eq (g2 := F0 m 15 ls []) rfl ?_
  refine lv_aload_n hx hb dX12_divideAll_15 rfl (lv_at hl 1 rfl) ?_
  refine lv_sipush (v := hz_i 4248) hx hb dX12_divideAll_16 (by decide +kernel) ?_
  refine lv_iload_n hx hb dX12_divideAll_19 rfl (lv_at hl 3 rfl) ?_
  have hFc := mw_free hD hS hA
  refine va_callv (va_runV (As := [.int (hz_i 4248), .int (hz_i y2)]) (rest := []) ⟨hx, hb, hml, hown, hts⟩ (k_bigCopy l D _ om R C z A_4 4248 y2 _ hw) (cwV 2 hts gX12_divideAll_X12_bigCopy rfl rfl rfl (by decide +kernel) ⟨Nat.le_of_ble_eq_true rfl, Nat.le_of_ble_eq_true rfl⟩) ⟨hm_blind, va_recv hK hP (ci := 12) (q0 := 0) rfl rfl, hm_pre hP hK hD hE⟩ rfl rfl hl.1 rfl (lv_room (Nat.le_of_ble_eq_true rfl)) dX12_divideAll_20 ⟨Nat.le_of_ble_eq_true rfl, Nat.le_of_ble_eq_true rfl⟩) hS (fun q _ h => hFc q h) hFc (fun u t H1 locs ht hvm hw hB hz1 hk1 hS => ?_)
  obtain ⟨r_5, _, A_6⟩ := u
  obtain ⟨hP, hK1, hD1⟩ := hB
  rw [ht] at hP
  have hD := hD1.weaken (fun k q _ h => hFc q.1 h)
  have hP : va_P D vwCl (mw_w om R C z A_6) H1 := hP
  have hD : va_D Ad (mw_w om R C z A_6) := hD
  generalize H1 = H at hP hS ⊢
  refine W.eq (g2 := F0 m 23 ls []) rfl ?_
  refine lv_aload_n hx hb dX12_divideAll_23 rfl (lv_at hl 1 rfl) ?_
  refine lv_sipush (v := hz_i 4247) hx hb dX12_divideAll_24 (by decide +kernel) ?_
  refine lv_sipush (v := hz_i 4248) hx hb dX12_divideAll_27 (by decide +kernel) ?_
  refine lv_sipush (v := hz_i 4246) hx hb dX12_divideAll_30 (by decide +kernel) ?_
  have hFc := mw_free hD hS hA
  refine va_callv (va_runV (As := [.int (hz_i 4247), .int (hz_i 4248), .int (hz_i 4246)]) (rest := []) ⟨hx, hb, hml, hown, hts⟩ (k_bigDivide l D _ om R C z A_6 4247 4248 4246 _ hw) (cwV 3 hts gX12_divideAll_X12_bigDivide rfl rfl rfl (by decide +kernel) ⟨Nat.le_of_ble_eq_true rfl, Nat.le_of_ble_eq_true rfl⟩) ⟨hm_blind, va_recv hK hP (ci := 12) (q0 := 0) rfl rfl, hm_pre hP hK hD hE⟩ rfl rfl hl.1 rfl (lv_room (Nat.le_of_ble_eq_true rfl)) dX12_divideAll_33 ⟨Nat.le_of_ble_eq_true rfl, Nat.le_of_ble_eq_true rfl⟩) hS (fun q _ h => hFc q h) hFc (fun u t H1 locs ht hvm hw hB hz1 hk1 hS => ?_)
  obtain ⟨r_7, _, A_8⟩ := u
  obtain ⟨hP, hK1, hD1⟩ := hB
  rw [ht] at hP
  have hD := hD1.weaken (fun k q _ h => hFc q.1 h)
  have hP : va_P D vwCl (mw_w om R C z A_8) H1 := hP
  have hD : va_D Ad (mw_w om R C z A_8) := hD
  generalize H1 = H at hP hS ⊢
  refine W.eq (g2 := F0 m 36 ls []) rfl ?_
  refine lv_aload_n hx hb dX12_divideAll_36 rfl (lv_at hl 1 rfl) ?_
  refine lv_iload_n hx hb dX12_divideAll_37 rfl (lv_at hl 2 rfl) ?_
  refine lv_sipush (v := hz_i 4246) hx hb dX12_divideAll_38 (by decide +kernel) ?_
  have hFc := mw_free hD hS hA
  refine va_callv (va_runV (As := [.int (hz_i y1), .int (hz_i 4246)]) (rest := []) ⟨hx, hb, hml, hown, hts⟩ (k_bigCopy l D _ om R C z A_8 y1 4246 _ hw) (cwV 2 hts gX12_divideAll_X12_bigCopy rfl rfl rfl (by decide +kernel) ⟨Nat.le_of_ble_eq_true rfl, Nat.le_of_ble_eq_true rfl⟩) ⟨hm_blind, va_recv hK hP (ci := 12) (q0 := 0) rfl rfl, hm_pre hP hK hD hE⟩ rfl rfl hl.1 rfl (lv_room (Nat.le_of_ble_eq_true rfl)) dX12_divideAll_41 ⟨Nat.le_of_ble_eq_true rfl, Nat.le_of_ble_eq_true rfl⟩) hS (fun q _ h => hFc q h) hFc (fun u t H1 locs ht hvm hw hB hz1 hk1 hS => ?_)
  obtain ⟨r_9, _, A_10⟩ := u
  obtain ⟨hP, hK1, hD1⟩ := hB
  rw [ht] at hP
  have hD := hD1.weaken (fun k q _ h => hFc q.1 h)
  have hP : va_P D vwCl (mw_w om R C z A_10) H1 := hP
  have hD : va_D Ad (mw_w om R C z A_10) := hD
  generalize H1 = H at hP hS ⊢
  refine W.eq (g2 := F0 m 44 ls []) rfl ?_
  refine lv_aload_n hx hb dX12_divideAll_44 rfl (lv_at hl 1 rfl) ?_
  refine mw_get (v := .ref (R 2)) hx hb hts hin12 hown hK hP 2 (by decide) (hts (.fieldLink RX12 4 "HiddenMovesModel" "minus" "[Z") (List.mem_cons_of_mem _ (List.mem_append_left _ (List.mem_append_left _ (List.mem_of_getElem? (i := 0) rfl))))) (fun _ h9 => h9) rfl dX12_divideAll_45 ?_
  refine lv_iload_n hx hb dX12_divideAll_48 rfl (lv_at hl 2 rfl) ?_
  refine lv_iload_n hx hb dX12_divideAll_49 rfl (lv_at hl 0 rfl) ?_
  obtain ⟨h9a, hw⟩ := hw
  refine hz_if_eq (tgt := 65) hx hb dX12_divideAll_50 (by decide) h9a (fun c_11 => ?_) (fun c_11 => ?_)
  · have hw := hw.1 c_11
    exact L65 A_10 y1 hw H locs ls hP hD hS (lv_sub hl [1] rfl)
  · have hw := hw.2 c_11
    refine lv_aload_n hx hb dX12_divideAll_53 rfl (lv_at hl 1 rfl) ?_
    refine lv_iload_n hx hb dX12_divideAll_54 rfl (lv_at hl 2 rfl) ?_
    have hFc := mw_free hD hS hA
    refine va_calli (va_runV (As := [.int (hz_i y1)]) (rest := [.int (hz_i y1), .ref (R 2)]) ⟨hx, hb, hml, hown, hts⟩ (k_bigIsZero l D _ om R C z A_10 y1 _ hw) (cwV 1 hts gX12_divideAll_X12_bigIsZero rfl rfl rfl (by decide +kernel) ⟨Nat.le_of_ble_eq_true rfl, Nat.le_of_ble_eq_true rfl⟩) ⟨hm_blind, va_recv hK hP (ci := 12) (q0 := 0) rfl rfl, hm_pre hP hK hD hE⟩ rfl rfl hl.1 rfl (lv_room (Nat.le_of_ble_eq_true rfl)) dX12_divideAll_55 ⟨Nat.le_of_ble_eq_true rfl, Nat.le_of_ble_eq_true rfl⟩) hS (fun q _ h => hFc q h) hFc (fun rv u t H1 locs ht hvm hw hB hz1 hk1 hS => ?_)
    obtain ⟨r_12, _, _⟩ := u
    obtain ⟨hP, hK1, hD1⟩ := hB
    rw [ht] at hP
    obtain ⟨hrv, hw⟩ := hw
    subst hrv
    have hD := hD1.weaken (fun k q _ h => hFc q.1 h)
    have hP : va_P D vwCl (mw_w om R C z A_10) H1 := hP
    have hD : va_D Ad (mw_w om R C z A_10) := hD
    generalize H1 = H at hP hS ⊢
    refine W.eq (g2 := F0 m 58 ls [.int (hz_i r_12), .int (hz_i y1), .ref (R 2)]) rfl ?_
    obtain ⟨h9a, hw⟩ := hw
    refine hz_if_ne (tgt := 65) hx hb dX12_divideAll_58 (by decide) h9a (fun c_13 => ?_) (fun c_13 => ?_)
    · have hw := hw.1 c_13
      exact L65 A_10 y1 hw H locs ls hP hD hS (lv_sub hl [1] rfl)
    · have hw := hw.2 c_13
      refine lv_iconst (v := hz_i 1) hx hb dX12_divideAll_61 (by decide +kernel) ?_
      refine lv_goto (tgt := 66) hx hb dX12_divideAll_62 (by decide) ?_
      exact L66 A_10 1 y1 hw H locs ls hP hD hS (lv_sub hl [1] rfl)
