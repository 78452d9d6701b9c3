noncomputable def wp_reply_52 (z : Nat → Int) (A : Nat → Nat → Int) (t0 : Int) (Q : Int → (Nat → Int) → Prop) : Prop := Q t0 z
noncomputable def wp_reply_51 (z : Nat → Int) (A : Nat → Nat → Int) (Q : Int → (Nat → Int) → Prop) : Prop := wp_reply_52 z A (-1)  Q
noncomputable def wp_reply (z : Nat → Int) (A : Nat → Nat → Int) (y1 : Int) (y2 : Int) (Q : Int → (Nat → Int) → Prop) : Prop := ∀ z_1 : Nat → Int, z_1 = lp_U z 3 0 → wp_isPlayer z_1 A y1 (fun r_2 => hz_rI r_2 ∧ ((r_2 = 0 → wp_reply_51 z_1 A  Q) ∧ (¬ (r_2 = 0) → (0 ≤ 1 + y1 ∧ 1 + y1 < 4) ∧ hz_rI (A 51 ((1 + y1).toNat)) ∧ ((A 51 ((1 + y1).toNat) = 0 → wp_reply_51 z_1 A  Q) ∧ (¬ (A 51 ((1 + y1).toNat) = 0) → wp_isSet z_1 A (3 - y1) y2 (fun r_5 => hz_rI r_5 ∧ ((r_5 = 0 → wp_reply_51 z_1 A  Q) ∧ (¬ (r_5 = 0) → (0 ≤ (10 * (2 - y1)) + y2 ∧ (10 * (2 - y1)) + y2 < 20) ∧ wp_reply_52 z_1 A (A 53 (((10 * (2 - y1)) + y2).toNat))  Q))))))))
set_option maxHeartbeats 4000000 in
set_option maxRecDepth 100000 in
theorem k_reply (l : Launch) (D : va_G) (sz : Nat) (om : Nat) (R : Nat → Nat) (C : Nat → ClassId) (z : Nat → Int) (A : Nat → Nat → Int) (y1 : Int) (y2 : Int) (Q : Int → (Nat → Int) → Prop) (hw : wp_reply z A y1 y2 Q) : Met l yX12_reply wsX12_reply ({ frames := 2, cells := 0, slots := 0, locals := 43 } : Room) (va_Pc [.ref om, .int (hz_i y1), .int (hz_i y2)] (hm_P D (mw_w om R C z A) (mw_t C) sz)) (va_Qi (S := Int × (Nat → Int) × (Nat → Nat → Int)) (fun r u => r = hz_i u.1 ∧ Q u.1 u.2.1) (fun u t => hm_B D (va_A (mw_w om R C z A) sz) (mw_w om R C u.2.1 A) (mw_t C) t) (va_A (mw_w om R C z A) sz)) 0 0 (va_A (mw_w om R C z A) sz) := by
  refine Met.ofW (cc := cX12_reply) (maxL := 3) (ret := (some .int)) (by decide) rfl ?_
  intro p e s m args below meth c s₁ B hml hv
  obtain ⟨rfl, hsz, hP, hK, hD0, hE⟩ := hv
  have hx := B.exec
  have hb := B.bytes
  have hr := B.returns
  have hts := atoms_spec (ws := wsX12_reply) B.pre
  have hown : s.vm.findClass RX12 = some m.cls := findClass_of_methodNamed B.named
  have hlocks := B.notSynchronized
  have hin12 : ∀ w ∈ u_ws RX12 TX12 58, w ∈ wsX12_reply := fun w h => List.mem_cons_of_mem _ (List.mem_append_right _ (h))
  subst hsz
  have hD := hD0.self (sz := s.heap.size)
  generalize hAe : va_A (mw_w om R C z A) s.heap.size = Ad at hD ⊢
  have hA : ∀ q : Nat, s.heap.size ≤ q → Ad q := fun q h => by rw [← hAe]; exact Or.inr h
  have hS : va_S Ad s.heap s.heap [] := va_S.rf
  have hl := lv_entry ([.ref om, .int (hz_i y1), .int (hz_i y2)]) (n := 3) (Nat.le_of_ble_eq_true rfl)
  rw [lg_entry_eq]
  generalize (lg_sl ([.ref om, .int (hz_i y1), .int (hz_i y2)]) ++ List.replicate (3 - (lg_sl ([.ref om, .int (hz_i y1), .int (hz_i y2)])).length) Slot.unset).toArray = ls at hl ⊢
  have hl : lv_has ls 3 [(0, .ref om), (1, .int (hz_i y1)), (2, .int (hz_i y2))] := hl
  refine mw_Q (fun QQ hQQ => ?_)
  have hP0 := hP; have hD0 := hD; have hS0 := hS; have hl0 := hl; have hw0 := hw
  clear hP hD hS hl hw
  have L52 : ∀ (z : Nat → Int) (t0 : Int), wp_reply_52 z A t0  Q → ∀ (H : Heap) (locs : List Loc) (ls : Array Slot), va_P D vwCl (mw_w om R C z A) H → va_D Ad (mw_w om R C z A) → va_S Ad s.heap H locs → lv_has ls 3 [(0, .ref om)] → W p l e (headSpec wsX12_reply ({ frames := 2, cells := 0, slots := 0, locals := 43 } : Room)).room s m (List.toArray [.ref om, .int (hz_i y1), .int (hz_i y2)]) below meth c H locs 0 0 QQ (F0 m 52 ls [.int (hz_i t0)]) := by
    intro z t0 hw H locs ls hP hD hS hl
    subst hQQ
    subst hAe
    exact W.iret (v := hz_i t0) hx hb hr (fun t ht hW => ⟨⟨hz_i t0, (t0, z, A), rfl, ⟨rfl, hw⟩, by rw [ht]; exact hP, va_K.moved hW.alike hK, hD⟩, hS.F ht⟩) hS.2.2 dX12_reply_52
  have L51 : ∀ (z : Nat → Int), wp_reply_51 z A  Q → ∀ (H : Heap) (locs : List Loc) (ls : Array Slot), va_P D vwCl (mw_w om R C z A) H → va_D Ad (mw_w om R C z A) → va_S Ad s.heap H locs → lv_has ls 3 [(0, .ref om)] → W p l e (headSpec wsX12_reply ({ frames := 2, cells := 0, slots := 0, locals := 43 } : Room)).room s m (List.toArray [.ref om, .int (hz_i y1), .int (hz_i y2)]) below meth c H locs 0 0 QQ (F0 m 51 ls []) := by
    intro z hw H locs ls hP hD hS hl
    refine lv_iconst (v := hz_i (-1)) hx hb dX12_reply_51 (by decide +kernel) ?_
    exact L52 z (-1) hw H locs ls hP hD hS (lv_sub hl [0] rfl)
  have hP := hP0; have hD := hD0; have hS := hS0; have hl := hl0; have hw := hw0
  obtain ⟨H, hH⟩ : ∃ H : Heap, H = s.heap := ⟨_, rfl⟩
  obtain ⟨locs, hlocs⟩ : ∃ L : List Loc, L = [] := ⟨_, rfl⟩
  rw [← hH] at hP
  have hS : va_S Ad s.heap H locs := by rw [hH, hlocs]; exact hS
  refine mw_HL hH hlocs ?_
  refine lv_aload_n hx hb dX12_reply_0 rfl (lv_at hl 0 rfl) ?_
  refine lv_iconst (v := hz_i 0) hx hb dX12_reply_1 (by decide +kernel) ?_
  refine mw_put (ty := .int) (v := .int (hz_i 0)) hx hb hts hin12 hown hK hP hD hS 3 (by decide) (hts (.fieldLink RX12 223 "HiddenMovesModel" "thrown" "I") (List.mem_cons_of_mem _ (List.mem_append_left _ (List.mem_of_getElem? (i := 0) rfl)))) (fun _ h9 => h9) rfl (by decide +kernel) rfl rfl (mw_s3 R z 0) dX12_reply_2 (fun H locs hP hD hS => ?_)
  obtain ⟨z_1, hz_1⟩ : ∃ y : Nat → Int, y = lp_U z 3 0 := ⟨_, rfl⟩
  rw [← hz_1] at hP hD
  have hw := hw z_1 hz_1
  refine lv_aload_n hx hb dX12_reply_5 rfl (lv_at hl 0 rfl) ?_
  refine lv_iload_n hx hb dX12_reply_6 rfl (lv_at hl 1 rfl) ?_
  have hFc := mw_free hD hS hA
  refine va_calli (va_runV (As := [.int (hz_i y1)]) (rest := []) ⟨hx, hb, hml, hown, hts⟩ (k_isPlayer l D _ om R C z_1 A y1 _ hw) (cwV 1 hts gX12_reply_X12_isPlayer rfl rfl rfl (by decide +kernel) ⟨Nat.le_of_ble_eq_true rfl, Nat.le_of_ble_eq_true rfl⟩) ⟨hm_blind, va_recv hK hP (ci := 12) (q0 := 0) rfl rfl, hm_pre hP hK hD hE⟩ rfl rfl hl.1 rfl (lv_room (Nat.le_of_ble_eq_true rfl)) dX12_reply_7 ⟨Nat.le_of_ble_eq_true rfl, Nat.le_of_ble_eq_true rfl⟩) hS (fun q _ h => hFc q h) hFc (fun rv u t H1 locs ht hvm hw hB hz1 hk1 hS => ?_)
  obtain ⟨r_2, _, _⟩ := u
  obtain ⟨hP, hK1, hD1⟩ := hB
  rw [ht] at hP
  obtain ⟨hrv, hw⟩ := hw
  subst hrv
  have hD := hD1.weaken (fun k q _ h => hFc q.1 h)
  have hP : va_P D vwCl (mw_w om R C z_1 A) H1 := hP
  have hD : va_D Ad (mw_w om R C z_1 A) := hD
  generalize H1 = H at hP hS ⊢
  refine W.eq (g2 := F0 m 10 ls [.int (hz_i r_2)]) rfl ?_
  obtain ⟨h9a, hw⟩ := hw
  refine hz_if_eq (tgt := 51) hx hb dX12_reply_10 (by decide) h9a (fun c_3 => ?_) (fun c_3 => ?_)
  · have hw := hw.1 c_3
    exact L51 z_1 hw H locs ls hP hD hS (lv_sub hl [0] rfl)
  · have hw := hw.2 c_3
    refine lv_aload_n hx hb dX12_reply_13 rfl (lv_at hl 0 rfl) ?_
    refine mw_get (v := .ref (R 51)) hx hb hts hin12 hown hK hP 51 (by decide) (hts (.fieldLink RX12 205 "HiddenMovesModel" "isThere" "[Z") (List.mem_cons_of_mem _ (List.mem_append_left _ (List.mem_of_getElem? (i := 1) rfl)))) (fun _ h9 => h9) rfl dX12_reply_14 ?_
    refine lv_iconst (v := hz_i 1) hx hb dX12_reply_17 (by decide +kernel) ?_
    refine lv_iload_n hx hb dX12_reply_18 rfl (lv_at hl 1 rfl) ?_
    refine hz_iadd hx hb dX12_reply_19 ?_
    obtain ⟨h9i, hw⟩ := hw
    refine mw_zld (k := 51) (n := 4) (i := 1 + y1) hx hb hK hP 38 37 rfl rfl h9i (by decide) dX12_reply_20 ?_
    obtain ⟨h9a, hw⟩ := hw
    refine hz_if_eq (tgt := 51) hx hb dX12_reply_21 (by decide) h9a (fun c_4 => ?_) (fun c_4 => ?_)
    · have hw := hw.1 c_4
      exact L51 z_1 hw H locs ls hP hD hS (lv_sub hl [0] rfl)
    · have hw := hw.2 c_4
      refine lv_aload_n hx hb dX12_reply_24 rfl (lv_at hl 0 rfl) ?_
      refine lv_iconst (v := hz_i 3) hx hb dX12_reply_25 (by decide +kernel) ?_
      refine lv_iload_n hx hb dX12_reply_26 rfl (lv_at hl 1 rfl) ?_
      refine hz_isub hx hb dX12_reply_27 ?_
      refine lv_iload_n hx hb dX12_reply_28 rfl (lv_at hl 2 rfl) ?_
      have hFc := mw_free hD hS hA
      refine va_calli (va_runV (As := [.int (hz_i (3 - y1)), .int (hz_i y2)]) (rest := []) ⟨hx, hb, hml, hown, hts⟩ (k_isSet l D _ om R C z_1 A (3 - y1) y2 _ hw) (cwV 2 hts gX12_reply_X12_isSet rfl rfl rfl (by decide +kernel) ⟨Nat.le_of_ble_eq_true rfl, Nat.le_of_ble_eq_true rfl⟩) ⟨hm_blind, va_recv hK hP (ci := 12) (q0 := 0) rfl rfl, hm_pre hP hK hD hE⟩ rfl rfl hl.1 rfl (lv_room (Nat.le_of_ble_eq_true rfl)) dX12_reply_29 ⟨Nat.le_of_ble_eq_true rfl, Nat.le_of_ble_eq_true rfl⟩) hS (fun q _ h => hFc q h) hFc (fun rv u t H1 locs ht hvm hw hB hz1 hk1 hS => ?_)
      obtain ⟨r_5, _, _⟩ := u
      obtain ⟨hP, hK1, hD1⟩ := hB
      rw [ht] at hP
      obtain ⟨hrv, hw⟩ := hw
      subst hrv
      have hD := hD1.weaken (fun k q _ h => hFc q.1 h)
      have hP : va_P D vwCl (mw_w om R C z_1 A) H1 := hP
      have hD : va_D Ad (mw_w om R C z_1 A) := hD
      generalize H1 = H at hP hS ⊢
      refine W.eq (g2 := F0 m 32 ls [.int (hz_i r_5)]) rfl ?_
      obtain ⟨h9a, hw⟩ := hw
      refine hz_if_eq (tgt := 51) hx hb dX12_reply_32 (by decide) h9a (fun c_6 => ?_) (fun c_6 => ?_)
      · have hw := hw.1 c_6
        exact L51 z_1 hw H locs ls hP hD hS (lv_sub hl [0] rfl)
      · have hw := hw.2 c_6
        refine lv_aload_n hx hb dX12_reply_35 rfl (lv_at hl 0 rfl) ?_
        refine mw_get (v := .ref (R 53)) hx hb hts hin12 hown hK hP 53 (by decide) (hts (.fieldLink RX12 211 "HiddenMovesModel" "replies" "[I") (List.mem_cons_of_mem _ (List.mem_append_left _ (List.mem_of_getElem? (i := 2) rfl)))) (fun _ h9 => h9) rfl dX12_reply_36 ?_
        refine lv_bipush (v := hz_i 10) hx hb dX12_reply_39 (by decide +kernel) ?_
        refine lv_iconst (v := hz_i 2) hx hb dX12_reply_41 (by decide +kernel) ?_
        refine lv_iload_n hx hb dX12_reply_42 rfl (lv_at hl 1 rfl) ?_
        refine hz_isub hx hb dX12_reply_43 ?_
        refine hz_imul hx hb dX12_reply_44 ?_
        refine lv_iload_n hx hb dX12_reply_45 rfl (lv_at hl 2 rfl) ?_
        refine hz_iadd hx hb dX12_reply_46 ?_
        obtain ⟨h9i, hw⟩ := hw
        refine mw_ild (k := 53) (n := 20) (i := (10 * (2 - y1)) + y2) hx hb hK hP 40 39 rfl rfl h9i (by decide) dX12_reply_47 ?_
        refine lv_goto (tgt := 52) hx hb dX12_reply_48 (by decide) ?_
        exact L52 z_1 (A 53 (((10 * (2 - y1)) + y2).toNat)) hw H locs ls hP hD hS (lv_sub hl [0] rfl)

noncomputable def wp_cell (z : Nat → Int) (A : Nat → Nat → Int) (y1 : Int) (y2 : Int) (Q : Int → Prop) : Prop := Q ((65 * y1) + y2)
set_option maxHeartbeats 4000000 in
set_option maxRecDepth 100000 in
theorem k_cell (l : Launch) (D : va_G) (sz : Nat) (om : Nat) (R : Nat → Nat) (C : Nat → ClassId) (z : Nat → Int) (A : Nat → Nat → Int) (y1 : Int) (y2 : Int) (Q : Int → Prop) (hw : wp_cell z A y1 y2 Q) : Met l yX12_cell wsX12_cell ({ frames := 0, cells := 0, slots := 0, locals := 0 } : Room) (va_Pc [.ref om, .int (hz_i y1), .int (hz_i y2)] (hm_P D (mw_w om R C z A) (mw_t C) sz)) (va_Qi (S := Int × (Nat → Int) × (Nat → Nat → Int)) (fun r u => r = hz_i u.1 ∧ Q u.1) (fun u t => hm_B D (va_A (mw_w om R C z A) sz) (mw_w om R C z A) (mw_t C) t) (va_A (mw_w om R C z A) sz)) 0 0 (va_A (mw_w om R C z A) sz) := by
  refine Met.ofW (cc := cX12_cell) (maxL := 3) (ret := (some .int)) (by decide) rfl ?_
  intro p e s m args below meth c s₁ B hml hv
  obtain ⟨rfl, hsz, hP, hK, hD0, hE⟩ := hv
  have hx := B.exec
  have hb := B.bytes
  have hr := B.returns
  have hts := atoms_spec (ws := wsX12_cell) B.pre
  have hown : s.vm.findClass RX12 = some m.cls := findClass_of_methodNamed B.named
  have hlocks := B.notSynchronized
  subst hsz
  have hD := hD0.self (sz := s.heap.size)
  generalize hAe : va_A (mw_w om R C z A) s.heap.size = Ad at hD ⊢
  have hA : ∀ q : Nat, s.heap.size ≤ q → Ad q := fun q h => by rw [← hAe]; exact Or.inr h
  have hS : va_S Ad s.heap s.heap [] := va_S.rf
  have hl := lv_entry ([.ref om, .int (hz_i y1), .int (hz_i y2)]) (n := 3) (Nat.le_of_ble_eq_true rfl)
  rw [lg_entry_eq]
  generalize (lg_sl ([.ref om, .int (hz_i y1), .int (hz_i y2)]) ++ List.replicate (3 - (lg_sl ([.ref om, .int (hz_i y1), .int (hz_i y2)])).length) Slot.unset).toArray = ls at hl ⊢
  have hl : lv_has ls 3 [(0, .ref om), (1, .int (hz_i y1)), (2, .int (hz_i y2))] := hl
  refine mw_Q (fun QQ hQQ => ?_)
  have hP0 := hP; have hD0 := hD; have hS0 := hS; have hl0 := hl; have hw0 := hw
  clear hP hD hS hl hw
  have hP := hP0; have hD := hD0; have hS := hS0; have hl := hl0; have hw := hw0
  obtain ⟨H, hH⟩ : ∃ H : Heap, H = s.heap := ⟨_, rfl⟩
  obtain ⟨locs, hlocs⟩ : ∃ L : List Loc, L = [] := ⟨_, rfl⟩
  rw [← hH] at hP
  have hS : va_S Ad s.heap H locs := by rw [hH, hlocs]; exact hS
  refine mw_HL hH hlocs ?_
  refine lv_bipush (v := hz_i 65) hx hb dX12_cell_0 (by decide +kernel) ?_
  refine lv_iload_n hx hb dX12_cell_2 rfl (lv_at hl 1 rfl) ?_
  refine hz_imul hx hb dX12_cell_3 ?_
  refine lv_iload_n hx hb dX12_cell_4 rfl (lv_at hl 2 rfl) ?_
  refine hz_iadd hx hb dX12_cell_5 ?_
  subst hQQ
  subst hAe
  exact W.iret (v := hz_i ((65 * y1) + y2)) hx hb hr (fun t ht hW => ⟨⟨hz_i ((65 * y1) + y2), ((65 * y1) + y2, z, A), rfl, ⟨rfl, hw⟩, by rw [ht]; exact hP, va_K.moved hW.alike hK, hD⟩, hS.F ht⟩) hS.2.2 dX12_cell_6

noncomputable def wp_meet_119 (z : Nat → Int) (A : Nat → Nat → Int) (x3 : Int) (t0 : Int) (P11 : Int → Int → Prop) (Q : Int → Prop) : Prop := ∀ x3_1 : Int, x3_1 = x3 + 1 → P11 t0 x3_1
noncomputable def wp_meet_94 (z : Nat → Int) (A : Nat → Nat → Int) (x1 : Int) (x3 : Int) (x5 : Int) (t0 : Int) (P11 : Int → Int → Prop) (P44 : Int → Int → Prop) (Q : Int → Prop) : Prop := ∀ x5_2 : Int, x5_2 = x5 + 1 → P44 t0 x5_2
noncomputable def wp_meet_93 (z : Nat → Int) (A : Nat → Nat → Int) (x1 : Int) (x3 : Int) (x5 : Int) (P11 : Int → Int → Prop) (P44 : Int → Int → Prop) (Q : Int → Prop) : Prop := wp_meet_94 z A x1 x3 x5 0 P11 P44 Q
noncomputable def wp_meet_44 (z : Nat → Int) (A : Nat → Nat → Int) (x1 : Int) (x3 : Int) (x4 : Int) (x5 : Int) (P11 : Int → Int → Prop) (Q : Int → Prop) : Prop := ∀ P44 : Int → Int → Prop, (∀ (x4 : Int) (x5 : Int), (0 ≤ x3 ∧ x3 < 800) ∧ (0 ≤ x3 ∧ x3 < 800) ∧ hz_rI x5 ∧ hz_rI ((A 20 (x3.toNat)) + (A 21 (x3.toNat))) ∧ (((A 20 (x3.toNat)) + (A 21 (x3.toNat)) ≤ x5 → hz_rI x4 ∧ ((x4 = 0 → wp_meet_119 z A x3 x1 P11 Q) ∧ (¬ (x4 = 0) → (0 ≤ x3 ∧ x3 < 800) ∧ wp_meet_119 z A x3 (x1 + (A 19 (x3.toNat))) P11 Q))) ∧ (¬ ((A 20 (x3.toNat)) + (A 21 (x3.toNat)) ≤ x5) → hz_rI x4 ∧ ((x4 = 0 → wp_meet_93 z A x1 x3 x5 P11 P44 Q) ∧ (¬ (x4 = 0) → (0 ≤ x5 ∧ x5 < 16000) ∧ (0 ≤ A 22 (x5.toNat) ∧ A 22 (x5.toNat) < 20) ∧ (0 ≤ x5 ∧ x5 < 16000) ∧ hz_rI (A 52 ((A 22 (x5.toNat)).toNat)) ∧ hz_rI (A 23 (x5.toNat)) ∧ ((¬ A 52 ((A 22 (x5.toNat)).toNat) = A 23 (x5.toNat) → wp_meet_93 z A x1 x3 x5 P11 P44 Q) ∧ (A 52 ((A 22 (x5.toNat)).toNat) = A 23 (x5.toNat) → wp_meet_94 z A x1 x3 x5 1 P11 P44 Q)))))) → P44 x4 x5) → P44 x4 x5
noncomputable def wp_meet_11 (z : Nat → Int) (A : Nat → Nat → Int) (x1 : Int) (x3 : Int) (Q : Int → Prop) : Prop := ∀ P11 : Int → Int → Prop, (∀ (x1 : Int) (x3 : Int), (0 ≤ z 32 ∧ z 32 < 2) ∧ hz_rI x3 ∧ hz_rI ((400 * (z 32)) + (A 14 ((z 32).toNat))) ∧ (((400 * (z 32)) + (A 14 ((z 32).toNat)) ≤ x3 → Q x1) ∧ (¬ ((400 * (z 32)) + (A 14 ((z 32).toNat)) ≤ x3) → (0 ≤ x3 ∧ x3 < 800) ∧ ∀ x5_8 : Int, x5_8 = A 20 (x3.toNat) → wp_meet_44 z A x1 x3 1 x5_8 P11 Q)) → P11 x1 x3) → P11 x1 x3
noncomputable def wp_meet (z : Nat → Int) (A : Nat → Nat → Int) (Q : Int → Prop) : Prop := ∀ x3_9 : Int, x3_9 = 400 * (z 32) → wp_meet_11 z A 0 x3_9  Q
set_option maxHeartbeats 4000000 in
set_option maxRecDepth 100000 in
theorem k_meet (l : Launch) (D : va_G) (sz : Nat) (om : Nat) (R : Nat → Nat) (C : Nat → ClassId) (z : Nat → Int) (A : Nat → Nat → Int) (Q : Int → Prop) (hw : wp_meet z A Q) : Met l yX12_meet wsX12_meet ({ frames := 0, cells := 0, slots := 0, locals := 0 } : Room) (va_Pc [.ref om] (hm_P D (mw_w om R C z A) (mw_t C) sz)) (va_Ql (S := Int × (Nat → Int) × (Nat → Nat → Int)) (fun r u => r = hz_l u.1 ∧ Q u.1) (fun u t => hm_B D (va_A (mw_w om R C z A) sz) (mw_w om R C z A) (mw_t C) t) (va_A (mw_w om R C z A) sz)) 0 0 (va_A (mw_w om R C z A) sz) := by
  refine Met.ofW (cc := cX12_meet) (maxL := 6) (ret := (some .long)) (by decide) rfl ?_
  intro p e s m args below meth c s₁ B hml hv
  obtain ⟨rfl, hsz, hP, hK, hD0, hE⟩ := hv
  have hx := B.exec
  have hb := B.bytes
  have hr := B.returns
  have hts := atoms_spec (ws := wsX12_meet) B.pre
  have hown : s.vm.findClass RX12 = some m.cls := findClass_of_methodNamed B.named
  have hlocks := B.notSynchronized
  have hin12 : ∀ w ∈ u_ws RX12 TX12 58, w ∈ wsX12_meet := fun w h => List.mem_cons_of_mem _ (List.mem_append_right _ (h))
  subst hsz
  have hD := hD0.self (sz := s.heap.size)
  generalize hAe : va_A (mw_w om R C z A) s.heap.size = Ad at hD ⊢
  have hA : ∀ q : Nat, s.heap.size ≤ q → Ad q := fun q h => by rw [← hAe]; exact Or.inr h
  have hS : va_S Ad s.heap s.heap [] := va_S.rf
  have hl := lv_entry ([.ref om]) (n := 6) (Nat.le_of_ble_eq_true rfl)
  rw [lg_entry_eq]
  generalize (lg_sl ([.ref om]) ++ List.replicate (6 - (lg_sl ([.ref om])).length) Slot.unset).toArray = ls at hl ⊢
  have hl : lv_has ls 6 [(0, .ref om)] := hl
  refine mw_Q (fun QQ hQQ => ?_)
  have hP0 := hP; have hD0 := hD; have hS0 := hS; have hl0 := hl; have hw0 := hw
  clear hP hD hS hl hw
  have L11 : ∀ (x1 : Int) (x3 : Int), wp_meet_11 z A x1 x3  Q → ∀ (H : Heap) (locs : List Loc) (ls : Array Slot), va_P D vwCl (mw_w om R C z A) H → va_D Ad (mw_w om R C z A) → va_S Ad s.heap H locs → lv_has ls 6 [(0, .ref om), (1, .long (hz_l x1)), (3, .int (hz_i x3))] → W p l e (headSpec wsX12_meet ({ frames := 0, cells := 0, slots := 0, locals := 0 } : Room)).room s m (List.toArray [.ref om]) below meth c H locs 0 0 QQ (F0 m 11 ls []) := by
    intro x1 x3 hw
    obtain ⟨P11, hP11⟩ : ∃ P : Int → Int → Prop, ∀ (x1 : Int) (x3 : Int), P x1 x3 ↔ (∀ (H : Heap) (locs : List Loc) (ls : Array Slot), va_P D vwCl (mw_w om R C z A) H → va_D Ad (mw_w om R C z A) → va_S Ad s.heap H locs → lv_has ls 6 [(0, .ref om), (1, .long (hz_l x1)), (3, .int (hz_i x3))] → W p l e (headSpec wsX12_meet ({ frames := 0, cells := 0, slots := 0, locals := 0 } : Room)).room s m (List.toArray [.ref om]) below meth c H locs 0 0 QQ (F0 m 11 ls [])) := ⟨fun (x1 : Int) (x3 : Int) => ∀ (H : Heap) (locs : List Loc) (ls : Array Slot), va_P D vwCl (mw_w om R C z A) H → va_D Ad (mw_w om R C z A) → va_S Ad s.heap H locs → lv_has ls 6 [(0, .ref om), (1, .long (hz_l x1)), (3, .int (hz_i x3))] → W p l e (headSpec wsX12_meet ({ frames := 0, cells := 0, slots := 0, locals := 0 } : Room)).room s m (List.toArray [.ref om]) below meth c H locs 0 0 QQ (F0 m 11 ls []), fun _ _ => Iff.rfl⟩
    refine (hP11 x1 x3).mp (hw P11 ?_)
    intro x1 x3 hw
    refine (hP11 x1 x3).mpr ?_
    intro H locs ls hP hD hS hl
    have L119 : ∀ (x3 : Int) (t0 : Int), wp_meet_119 z A x3 t0 P11 Q → ∀ (H : Heap) (locs : List Loc) (ls : Array Slot), va_P D vwCl (mw_w om R C z A) H → va_D Ad (mw_w om R C z A) → va_S Ad s.heap H locs → lv_has ls 6 [(0, .ref om), (3, .int (hz_i x3))] → W p l e (headSpec wsX12_meet ({ frames := 0, cells := 0, slots := 0, locals := 0 } : Room)).room s m (List.toArray [.ref om]) below meth c H locs 0 0 QQ (F0 m 119 ls [.long (hz_l t0)]) := by
      intro x3 t0 hw H locs ls hP hD hS hl
      refine lv_lstore_n (lv' := [(1, .long (hz_l t0)), (0, .ref om), (3, .int (hz_i x3))]) hx hb dX12_meet_119 rfl hl (by decide) rfl (fun ls hl => ?_)
      obtain ⟨x3_1, hx3_1⟩ : ∃ y : Int, y = x3 + 1 := ⟨_, rfl⟩
      have hw := hw x3_1 hx3_1
      refine lv_iinc (v := hz_i x3_1) (lv' := [(3, .int (hz_i x3_1)), (1, .long (hz_l t0)), (0, .ref om)]) hx hb dX12_meet_120 hl (k := 2) rfl (by rw [hx3_1]; exact hz_i_add _ _) (by decide) rfl (fun ls hl => ?_)
      refine lv_goto (tgt := 11) hx hb dX12_meet_123 (by decide) ?_
      exact (hP11 t0 x3_1).mp hw H locs ls hP hD hS (lv_sub hl [2, 1, 0] rfl)
    have L44 : ∀ (x1 : Int) (x3 : Int) (x4 : Int) (x5 : Int), wp_meet_44 z A x1 x3 x4 x5 P11 Q → ∀ (H : Heap) (locs : List Loc) (ls : Array Slot), va_P D vwCl (mw_w om R C z A) H → va_D Ad (mw_w om R C z A) → va_S Ad s.heap H locs → lv_has ls 6 [(0, .ref om), (1, .long (hz_l x1)), (3, .int (hz_i x3)), (4, .int (hz_i x4)), (5, .int (hz_i x5))] → W p l e (headSpec wsX12_meet ({ frames := 0, cells := 0, slots := 0, locals := 0 } : Room)).room s m (List.toArray [.ref om]) below meth c H locs 0 0 QQ (F0 m 44 ls []) := by
      intro x1 x3 x4 x5 hw
      obtain ⟨P44, hP44⟩ : ∃ P : Int → Int → Prop, ∀ (x4 : Int) (x5 : Int), P x4 x5 ↔ (∀ (H : Heap) (locs : List Loc) (ls : Array Slot), va_P D vwCl (mw_w om R C z A) H → va_D Ad (mw_w om R C z A) → va_S Ad s.heap H locs → lv_has ls 6 [(0, .ref om), (1, .long (hz_l x1)), (3, .int (hz_i x3)), (4, .int (hz_i x4)), (5, .int (hz_i x5))] → W p l e (headSpec wsX12_meet ({ frames := 0, cells := 0, slots := 0, locals := 0 } : Room)).room s m (List.toArray [.ref om]) below meth c H locs 0 0 QQ (F0 m 44 ls [])) := ⟨fun (x4 : Int) (x5 : Int) => ∀ (H : Heap) (locs : List Loc) (ls : Array Slot), va_P D vwCl (mw_w om R C z A) H → va_D Ad (mw_w om R C z A) → va_S Ad s.heap H locs → lv_has ls 6 [(0, .ref om), (1, .long (hz_l x1)), (3, .int (hz_i x3)), (4, .int (hz_i x4)), (5, .int (hz_i x5))] → W p l e (headSpec wsX12_meet ({ frames := 0, cells := 0, slots := 0, locals := 0 } : Room)).room s m (List.toArray [.ref om]) below meth c H locs 0 0 QQ (F0 m 44 ls []), fun _ _ => Iff.rfl⟩
      refine (hP44 x4 x5).mp (hw P44 ?_)
      intro x4 x5 hw
      refine (hP44 x4 x5).mpr ?_
      intro H locs ls hP hD hS hl
      have L94 : ∀ (x5 : Int) (t0 : Int), wp_meet_94 z A x1 x3 x5 t0 P11 P44 Q → ∀ (H : Heap) (locs : List Loc) (ls : Array Slot), va_P D vwCl (mw_w om R C z A) H → va_D Ad (mw_w om R C z A) → va_S Ad s.heap H locs → lv_has ls 6 [(0, .ref om), (1, .long (hz_l x1)), (3, .int (hz_i x3)), (5, .int (hz_i x5))] → W p l e (headSpec wsX12_meet ({ frames := 0, cells := 0, slots := 0, locals := 0 } : Room)).room s m (List.toArray [.ref om]) below meth c H locs 0 0 QQ (F0 m 94 ls [.int (hz_i t0)]) := by
        intro x5 t0 hw H locs ls hP hD hS hl
        refine lv_istore (lv' := [(4, .int (hz_i t0)), (0, .ref om), (1, .long (hz_l x1)), (3, .int (hz_i x3)), (5, .int (hz_i x5))]) hx hb dX12_meet_94 hl (by decide) rfl (fun ls hl => ?_)
        obtain ⟨x5_2, hx5_2⟩ : ∃ y : Int, y = x5 + 1 := ⟨_, rfl⟩
        have hw := hw x5_2 hx5_2
        refine lv_iinc (v := hz_i x5_2) (lv' := [(5, .int (hz_i x5_2)), (4, .int (hz_i t0)), (0, .ref om), (1, .long (hz_l x1)), (3, .int (hz_i x3))]) hx hb dX12_meet_96 hl (k := 4) rfl (by rw [hx5_2]; exact hz_i_add _ _) (by decide) rfl (fun ls hl => ?_)
        refine lv_goto (tgt := 44) hx hb dX12_meet_99 (by decide) ?_
        exact (hP44 t0 x5_2).mp hw H locs ls hP hD hS (lv_sub hl [2, 3, 4, 1, 0] rfl)
      have L93 : ∀ (x5 : Int), wp_meet_93 z A x1 x3 x5 P11 P44 Q → ∀ (H : Heap) (locs : List Loc) (ls : Array Slot), va_P D vwCl (mw_w om R C z A) H → va_D Ad (mw_w om R C z A) → va_S Ad s.heap H locs → lv_has ls 6 [(0, .ref om), (1, .long (hz_l x1)), (3, .int (hz_i x3)), (5, .int (hz_i x5))] → W p l e (headSpec wsX12_meet ({ frames := 0, cells := 0, slots := 0, locals := 0 } : Room)).room s m (List.toArray [.ref om]) below meth c H locs 0 0 QQ (F0 m 93 ls []) := by
        intro x5 hw H locs ls hP hD hS hl
        refine lv_iconst (v := hz_i 0) hx hb dX12_meet_93 (by decide +kernel) ?_
        exact L94 x5 0 hw H locs ls hP hD hS (lv_sub hl [0, 1, 2, 3] rfl)
      refine lv_iload hx hb dX12_meet_44 (lv_at hl 4 rfl) ?_
      refine lv_aload_n hx hb dX12_meet_46 rfl (lv_at hl 0 rfl) ?_
      refine mw_get (v := .ref (R 20)) hx hb hts hin12 hown hK hP 20 (by decide) (hts (.fieldLink RX12 136 "HiddenMovesModel" "wayFrom" "[I") (List.mem_cons_of_mem _ (List.mem_append_left _ (List.mem_of_getElem? (i := 2) rfl)))) (fun _ h9 => h9) rfl dX12_meet_47 ?_
      refine lv_iload_n hx hb dX12_meet_50 rfl (lv_at hl 2 rfl) ?_
      obtain ⟨h9i, hw⟩ := hw
      refine mw_ild (k := 20) (n := 800) (i := x3) hx hb hK hP 16 15 rfl rfl h9i (by decide) dX12_meet_51 ?_
      refine lv_aload_n hx hb dX12_meet_52 rfl (lv_at hl 0 rfl) ?_
      refine mw_get (v := .ref (R 21)) hx hb hts hin12 hown hK hP 21 (by decide) (hts (.fieldLink RX12 139 "HiddenMovesModel" "wayMany" "[I") (List.mem_cons_of_mem _ (List.mem_append_left _ (List.mem_of_getElem? (i := 3) rfl)))) (fun _ h9 => h9) rfl dX12_meet_53 ?_
      refine lv_iload_n hx hb dX12_meet_56 rfl (lv_at hl 2 rfl) ?_
      obtain ⟨h9i, hw⟩ := hw
      refine mw_ild (k := 21) (n := 800) (i := x3) hx hb hK hP 17 16 rfl rfl h9i (by decide) dX12_meet_57 ?_
      refine hz_iadd hx hb dX12_meet_58 ?_
      obtain ⟨h9a, hw⟩ := hw
      obtain ⟨h9b, hw⟩ := hw
      refine hz_icmp_ge (tgt := 102) hx hb dX12_meet_59 (by decide) h9a h9b (fun c_3 => ?_) (fun c_3 => ?_)
      · have hw := hw.1 c_3
        refine lv_iload hx hb dX12_meet_102 (lv_at hl 3 rfl) ?_
        obtain ⟨h9a, hw⟩ := hw
        refine hz_if_eq (tgt := 118) hx hb dX12_meet_104 (by decide) h9a (fun c_4 => ?_) (fun c_4 => ?_)
        · have hw := hw.1 c_4
          refine lv_lload_n hx hb dX12_meet_118 rfl (lv_at hl 1 rfl) ?_
          exact L119 x3 x1 hw H locs ls hP hD hS (lv_sub hl [0, 2] rfl)
        · have hw := hw.2 c_4
          refine lv_lload_n hx hb dX12_meet_107 rfl (lv_at hl 1 rfl) ?_
          refine lv_aload_n hx hb dX12_meet_108 rfl (lv_at hl 0 rfl) ?_
          refine mw_get (v := .ref (R 19)) hx hb hts hin12 hown hK hP 19 (by decide) (hts (.fieldLink RX12 133 "HiddenMovesModel" "weight" "[J") (List.mem_cons_of_mem _ (List.mem_append_left _ (List.mem_of_getElem? (i := 7) rfl)))) (fun _ h9 => h9) rfl dX12_meet_109 ?_
          refine lv_iload_n hx hb dX12_meet_112 rfl (lv_at hl 2 rfl) ?_
          obtain ⟨h9i, hw⟩ := hw
          refine mw_lld (k := 19) (n := 800) (i := x3) hx hb hK hP 15 14 rfl rfl h9i (by decide) dX12_meet_113 ?_
          refine hz_ladd hx hb dX12_meet_114 ?_
          refine lv_goto (tgt := 119) hx hb dX12_meet_115 (by decide) ?_
          exact L119 x3 (x1 + (A 19 (x3.toNat))) hw H locs ls hP hD hS (lv_sub hl [0, 2] rfl)
      · have hw := hw.2 c_3
        refine lv_iload hx hb dX12_meet_62 (lv_at hl 3 rfl) ?_
        obtain ⟨h9a, hw⟩ := hw
        refine hz_if_eq (tgt := 93) hx hb dX12_meet_64 (by decide) h9a (fun c_5 => ?_) (fun c_5 => ?_)
        · have hw := hw.1 c_5
          exact L93 x5 hw H locs ls hP hD hS (lv_sub hl [0, 1, 2, 4] rfl)
        · have hw := hw.2 c_5
          refine lv_aload_n hx hb dX12_meet_67 rfl (lv_at hl 0 rfl) ?_
          refine mw_get (v := .ref (R 52)) hx hb hts hin12 hown hK hP 52 (by decide) (hts (.fieldLink RX12 208 "HiddenMovesModel" "plan" "[I") (List.mem_cons_of_mem _ (List.mem_append_left _ (List.mem_of_getElem? (i := 4) rfl)))) (fun _ h9 => h9) rfl dX12_meet_68 ?_
          refine lv_aload_n hx hb dX12_meet_71 rfl (lv_at hl 0 rfl) ?_
          refine mw_get (v := .ref (R 22)) hx hb hts hin12 hown hK hP 22 (by decide) (hts (.fieldLink RX12 142 "HiddenMovesModel" "waySet" "[I") (List.mem_cons_of_mem _ (List.mem_append_left _ (List.mem_of_getElem? (i := 5) rfl)))) (fun _ h9 => h9) rfl dX12_meet_72 ?_
          refine lv_iload hx hb dX12_meet_75 (lv_at hl 4 rfl) ?_
          obtain ⟨h9i, hw⟩ := hw
          refine mw_ild (k := 22) (n := 16000) (i := x5) hx hb hK hP 18 17 rfl rfl h9i (by decide) dX12_meet_77 ?_
          obtain ⟨h9i, hw⟩ := hw
          refine mw_ild (k := 52) (n := 20) (i := A 22 (x5.toNat)) hx hb hK hP 39 38 rfl rfl h9i (by decide) dX12_meet_78 ?_
          refine lv_aload_n hx hb dX12_meet_79 rfl (lv_at hl 0 rfl) ?_
          refine mw_get (v := .ref (R 23)) hx hb hts hin12 hown hK hP 23 (by decide) (hts (.fieldLink RX12 145 "HiddenMovesModel" "wayMove" "[I") (List.mem_cons_of_mem _ (List.mem_append_left _ (List.mem_of_getElem? (i := 6) rfl)))) (fun _ h9 => h9) rfl dX12_meet_80 ?_
          refine lv_iload hx hb dX12_meet_83 (lv_at hl 4 rfl) ?_
          obtain ⟨h9i, hw⟩ := hw
          refine mw_ild (k := 23) (n := 16000) (i := x5) hx hb hK hP 19 18 rfl rfl h9i (by decide) dX12_meet_85 ?_
          obtain ⟨h9a, hw⟩ := hw
          obtain ⟨h9b, hw⟩ := hw
          refine hz_icmp_ne (tgt := 93) hx hb dX12_meet_86 (by decide) h9a h9b (fun c_6 => ?_) (fun c_6 => ?_)
          · have hw := hw.1 c_6
            exact L93 x5 hw H locs ls hP hD hS (lv_sub hl [0, 1, 2, 4] rfl)
          · have hw := hw.2 c_6
            refine lv_iconst (v := hz_i 1) hx hb dX12_meet_89 (by decide +kernel) ?_
            refine lv_goto (tgt := 94) hx hb dX12_meet_90 (by decide) ?_
            exact L94 x5 1 hw H locs ls hP hD hS (lv_sub hl [0, 1, 2, 4] rfl)
    refine lv_iload_n hx hb dX12_meet_11 rfl (lv_at hl 2 rfl) ?_
    refine lv_sipush (v := hz_i 400) hx hb dX12_meet_12 (by decide +kernel) ?_
    refine lv_aload_n hx hb dX12_meet_15 rfl (lv_at hl 0 rfl) ?_
    refine mw_get (v := .int (hz_i (z 32))) hx hb hts hin12 hown hK hP 32 (by decide) (hts (.fieldLink RX12 328 "HiddenMovesModel" "game" "I") (List.mem_cons_of_mem _ (List.mem_append_left _ (List.mem_of_getElem? (i := 0) rfl)))) (fun _ h9 => h9) rfl dX12_meet_16 ?_
    refine hz_imul hx hb dX12_meet_19 ?_
    refine lv_aload_n hx hb dX12_meet_20 rfl (lv_at hl 0 rfl) ?_
    refine mw_get (v := .ref (R 14)) hx hb hts hin12 hown hK hP 14 (by decide) (hts (.fieldLink RX12 117 "HiddenMovesModel" "ends" "[I") (List.mem_cons_of_mem _ (List.mem_append_left _ (List.mem_of_getElem? (i := 1) rfl)))) (fun _ h9 => h9) rfl dX12_meet_21 ?_
    refine lv_aload_n hx hb dX12_meet_24 rfl (lv_at hl 0 rfl) ?_
    refine mw_get (v := .int (hz_i (z 32))) hx hb hts hin12 hown hK hP 32 (by decide) (hts (.fieldLink RX12 328 "HiddenMovesModel" "game" "I") (List.mem_cons_of_mem _ (List.mem_append_left _ (List.mem_of_getElem? (i := 0) rfl)))) (fun _ h9 => h9) rfl dX12_meet_25 ?_
    obtain ⟨h9i, hw⟩ := hw
    refine mw_ild (k := 14) (n := 2) (i := z 32) hx hb hK hP 10 9 rfl rfl h9i (by decide) dX12_meet_28 ?_
    refine hz_iadd hx hb dX12_meet_29 ?_
    obtain ⟨h9a, hw⟩ := hw
    obtain ⟨h9b, hw⟩ := hw
    refine hz_icmp_ge (tgt := 126) hx hb dX12_meet_30 (by decide) h9a h9b (fun c_7 => ?_) (fun c_7 => ?_)
    · have hw := hw.1 c_7
      refine lv_lload_n hx hb dX12_meet_126 rfl (lv_at hl 1 rfl) ?_
      subst hQQ
      subst hAe
      exact W.lret (v := hz_l x1) hx hb hr (fun t ht hW => ⟨⟨hz_l x1, (x1, z, A), rfl, ⟨rfl, hw⟩, by rw [ht]; exact hP, va_K.moved hW.alike hK, hD⟩, hS.F ht⟩) hS.2.2 dX12_meet_127
    · have hw := hw.2 c_7
      refine lv_iconst (v := hz_i 1) hx hb dX12_meet_33 (by decide +kernel) ?_
      refine lv_istore (lv' := [(4, .int (hz_i 1)), (0, .ref om), (1, .long (hz_l x1)), (3, .int (hz_i x3))]) hx hb dX12_meet_34 hl (by decide) rfl (fun ls hl => ?_)
      refine lv_aload_n hx hb dX12_meet_36 rfl (lv_at hl 1 rfl) ?_
      refine mw_get (v := .ref (R 20)) hx hb hts hin12 hown hK hP 20 (by decide) (hts (.fieldLink RX12 136 "HiddenMovesModel" "wayFrom" "[I") (List.mem_cons_of_mem _ (List.mem_append_left _ (List.mem_of_getElem? (i := 2) rfl)))) (fun _ h9 => h9) rfl dX12_meet_37 ?_
      refine lv_iload_n hx hb dX12_meet_40 rfl (lv_at hl 3 rfl) ?_
      obtain ⟨h9i, hw⟩ := hw
      refine mw_ild (k := 20) (n := 800) (i := x3) hx hb hK hP 16 15 rfl rfl h9i (by decide) dX12_meet_41 ?_
      refine hz_topi (fun x5_8 hx5_8 => ?_)
      have hw := hw x5_8 hx5_8
      refine lv_istore (lv' := [(5, .int (hz_i x5_8)), (4, .int (hz_i 1)), (0, .ref om), (1, .long (hz_l x1)), (3, .int (hz_i x3))]) hx hb dX12_meet_42 hl (by decide) rfl (fun ls hl => ?_)
      exact L44 x1 x3 1 x5_8 hw H locs ls hP hD hS (lv_sub hl [2, 3, 4, 1, 0] rfl)
  have hP := hP0; have hD := hD0; have hS := hS0; have hl := hl0; have hw := hw0
  obtain ⟨H, hH⟩ : ∃ H : Heap, H = s.heap := ⟨_, rfl⟩
  obtain ⟨locs, hlocs⟩ : ∃ L : List Loc, L = [] := ⟨_, rfl⟩
  rw [← hH] at hP
  have hS : va_S Ad s.heap H locs := by rw [hH, hlocs]; exact hS
  refine mw_HL hH hlocs ?_
  refine lv_lconst (v := hz_l 0) hx hb dX12_meet_0 (by decide +kernel) ?_
  refine lv_lstore_n (lv' := [(1, .long (hz_l 0)), (0, .ref om)]) hx hb dX12_meet_1 rfl hl (by decide) rfl (fun ls hl => ?_)
  refine lv_sipush (v := hz_i 400) hx hb dX12_meet_2 (by decide +kernel) ?_
  refine lv_aload_n hx hb dX12_meet_5 rfl (lv_at hl 1 rfl) ?_
  refine mw_get (v := .int (hz_i (z 32))) hx hb hts hin12 hown hK hP 32 (by decide) (hts (.fieldLink RX12 328 "HiddenMovesModel" "game" "I") (List.mem_cons_of_mem _ (List.mem_append_left _ (List.mem_of_getElem? (i := 0) rfl)))) (fun _ h9 => h9) rfl dX12_meet_6 ?_
  refine hz_imul hx hb dX12_meet_9 ?_
  refine hz_topi (fun x3_9 hx3_9 => ?_)
  have hw := hw x3_9 hx3_9
  refine lv_istore_n (lv' := [(3, .int (hz_i x3_9)), (1, .long (hz_l 0)), (0, .ref om)]) hx hb dX12_meet_10 rfl hl (by decide) rfl (fun ls hl => ?_)
  exact L11 0 x3_9 hw H locs ls hP hD hS (lv_sub hl [2, 1, 0] rfl)

noncomputable def wp_fill_85 (z : Nat → Int) (A : Nat → Nat → Int) (y1 : Int) (y2 : Int) (x3 : Int) (x5 : Int) (x6 : Int) (x7 : Int) (P5 : (Nat → Nat → Int) → Int → Int → Prop) (P19 : (Nat → Nat → Int) → Int → Int → Prop) (P33 : (Nat → Nat → Int) → Int → Int → Prop) (Q : Int → (Nat → Nat → Int) → Prop) : Prop := wp_nextPlan z A 1 (fun r_1 A_2 => ∀ x7_3 : Int, x7_3 = x7 + 1 → P33 A_2 x3 x7_3)
noncomputable def wp_fill_63 (z : Nat → Int) (A : Nat → Nat → Int) (y1 : Int) (y2 : Int) (x5 : Int) (x6 : Int) (x7 : Int) (t0 : Int) (P5 : (Nat → Nat → Int) → Int → Int → Prop) (P19 : (Nat → Nat → Int) → Int → Int → Prop) (P33 : (Nat → Nat → Int) → Int → Int → Prop) (Q : Int → (Nat → Nat → Int) → Prop) : Prop := wp_fill_85 z A y1 y2 t0 x5 x6 x7 P5 P19 P33 Q
noncomputable def wp_fill_33 (z : Nat → Int) (A : Nat → Nat → Int) (y1 : Int) (y2 : Int) (x3 : Int) (x5 : Int) (x6 : Int) (x7 : Int) (P5 : (Nat → Nat → Int) → Int → Int → Prop) (P19 : (Nat → Nat → Int) → Int → Int → Prop) (Q : Int → (Nat → Nat → Int) → Prop) : Prop := ∀ P33 : (Nat → Nat → Int) → Int → Int → Prop, (∀ (A : Nat → Nat → Int) (x3 : Int) (x7 : Int), hz_rI x7 ∧ hz_rI y2 ∧ ((y2 ≤ x7 → wp_nextPlan z A 0 (fun r_5 A_6 => ∀ x6_7 : Int, x6_7 = x6 + 1 → P19 A_6 x3 x6_7)) ∧ (¬ (y2 ≤ x7) → wp_meet z A (fun r_8 => hz_rI x5 ∧ ((¬ x5 = 0 → wp_cell z A x6 x7 (fun r_10 => wp_bigSet z A r_10 ((r_8 + 1) - x3) (fun A_12 => wp_fill_85 z A_12 y1 y2 x3 x5 x6 x7 P5 P19 P33 Q))) ∧ (x5 = 0 → hz_rL r_8 ∧ hz_rL x3 ∧ ((x3 ≤ r_8 → wp_fill_63 z A y1 y2 x5 x6 x7 x3 P5 P19 P33 Q) ∧ (¬ (x3 ≤ r_8) → wp_fill_63 z A y1 y2 x5 x6 x7 r_8 P5 P19 P33 Q))))))) → P33 A x3 x7) → P33 A x3 x7
noncomputable def wp_fill_19 (z : Nat → Int) (A : Nat → Nat → Int) (y1 : Int) (y2 : Int) (x3 : Int) (x5 : Int) (x6 : Int) (P5 : (Nat → Nat → Int) → Int → Int → Prop) (Q : Int → (Nat → Nat → Int) → Prop) : Prop := ∀ P19 : (Nat → Nat → Int) → Int → Int → Prop, (∀ (A : Nat → Nat → Int) (x3 : Int) (x6 : Int), hz_rI x6 ∧ hz_rI y1 ∧ ((y1 ≤ x6 → ∀ x5_15 : Int, x5_15 = x5 + 1 → P5 A x3 x5_15) ∧ (¬ (y1 ≤ x6) → wp_firstPlan z A 1 (fun A_17 => wp_fill_33 z A_17 y1 y2 x3 x5 x6 0 P5 P19 Q))) → P19 A x3 x6) → P19 A x3 x6
noncomputable def wp_fill_5 (z : Nat → Int) (A : Nat → Nat → Int) (y1 : Int) (y2 : Int) (x3 : Int) (x5 : Int) (Q : Int → (Nat → Nat → Int) → Prop) : Prop := ∀ P5 : (Nat → Nat → Int) → Int → Int → Prop, (∀ (A : Nat → Nat → Int) (x3 : Int) (x5 : Int), hz_rI x5 ∧ ((2 ≤ x5 → Q (1 - x3) A) ∧ (¬ (2 ≤ x5) → wp_firstPlan z A 0 (fun A_20 => wp_fill_19 z A_20 y1 y2 x3 x5 0 P5 Q))) → P5 A x3 x5) → P5 A x3 x5
noncomputable def wp_fill (z : Nat → Int) (A : Nat → Nat → Int) (y1 : Int) (y2 : Int) (Q : Int → (Nat → Nat → Int) → Prop) : Prop := wp_fill_5 z A y1 y2 0 0  Q
set_option maxHeartbeats 4000000 in
set_option maxRecDepth 100000 in
theorem k_fill (l : Launch) (D : va_G) (sz : Nat) (om : Nat) (R : Nat → Nat) (C : Nat → ClassId) (z : Nat → Int) (A : Nat → Nat → Int) (y1 : Int) (y2 : Int) (Q : Int → (Nat → Nat → Int) → Prop) (hw : wp_fill z A y1 y2 Q) : Met l yX12_fill wsX12_fill ({ frames := 2, cells := 0, slots := 0, locals := 46 } : Room) (va_Pc [.ref om, .int (hz_i y1), .int (hz_i y2)] (hm_P D (mw_w om R C z A) (mw_t C) sz)) (va_Ql (S := Int × (Nat → Int) × (Nat → Nat → Int)) (fun r u => r = hz_l u.1 ∧ Q u.1 u.2.2) (fun u t => hm_B D (va_A (mw_w om R C z A) sz) (mw_w om R C z u.2.2) (mw_t C) t) (va_A (mw_w om R C z A) sz)) 0 0 (va_A (mw_w om R C z A) sz) := by
  refine Met.ofW (cc := cX12_fill) (maxL := 11) (ret := (some .long)) (by decide) rfl ?_
  intro p e s m args below meth c s₁ B hml hv
  obtain ⟨rfl, hsz, hP, hK, hD0, hE⟩ := hv
  have hx := B.exec
  have hb := B.bytes
  have hr := B.returns
  have hts := atoms_spec (ws := wsX12_fill) B.pre
  have hown : s.vm.findClass RX12 = some m.cls := findClass_of_methodNamed B.named
  have hlocks := B.notSynchronized
  subst hsz
  have hD := hD0.self (sz := s.heap.size)
  generalize hAe : va_A (mw_w om R C z A) s.heap.size = Ad at hD ⊢
  have hA : ∀ q : Nat, s.heap.size ≤ q → Ad q := fun q h => by rw [← hAe]; exact Or.inr h
  have hS : va_S Ad s.heap s.heap [] := va_S.rf
  have hl := lv_entry ([.ref om, .int (hz_i y1), .int (hz_i y2)]) (n := 11) (Nat.le_of_ble_eq_true rfl)
  rw [lg_entry_eq]
  generalize (lg_sl ([.ref om, .int (hz_i y1), .int (hz_i y2)]) ++ List.replicate (11 - (lg_sl ([.ref om, .int (hz_i y1), .int (hz_i y2)])).length) Slot.unset).toArray = ls at hl ⊢
  have hl : lv_has ls 11 [(0, .ref om), (1, .int (hz_i y1)), (2, .int (hz_i y2))] := hl
  refine mw_Q (fun QQ hQQ => ?_)
  have hP0 := hP; have hD0 := hD; have hS0 := hS; have hl0 := hl; have hw0 := hw
  clear hP hD hS hl hw
  have L5 : ∀ (A : Nat → Nat → Int) (x3 : Int) (x5 : Int), wp_fill_5 z A y1 y2 x3 x5  Q → ∀ (H : Heap) (locs : List Loc) (ls : Array Slot), va_P D vwCl (mw_w om R C z A) H → va_D Ad (mw_w om R C z A) → va_S Ad s.heap H locs → lv_has ls 11 [(0, .ref om), (1, .int (hz_i y1)), (2, .int (hz_i y2)), (3, .long (hz_l x3)), (5, .int (hz_i x5))] → W p l e (headSpec wsX12_fill ({ frames := 2, cells := 0, slots := 0, locals := 46 } : Room)).room s m (List.toArray [.ref om, .int (hz_i y1), .int (hz_i y2)]) below meth c H locs 0 0 QQ (F0 m 5 ls []) := by
    intro A x3 x5 hw
    obtain ⟨P5, hP5⟩ : ∃ P : (Nat → Nat → Int) → Int → Int → Prop, ∀ (A : Nat → Nat → Int) (x3 : Int) (x5 : Int), P A x3 x5 ↔ (∀ (H : Heap) (locs : List Loc) (ls : Array Slot), va_P D vwCl (mw_w om R C z A) H → va_D Ad (mw_w om R C z A) → va_S Ad s.heap H locs → lv_has ls 11 [(0, .ref om), (1, .int (hz_i y1)), (2, .int (hz_i y2)), (3, .long (hz_l x3)), (5, .int (hz_i x5))] → W p l e (headSpec wsX12_fill ({ frames := 2, cells := 0, slots := 0, locals := 46 } : Room)).room s m (List.toArray [.ref om, .int (hz_i y1), .int (hz_i y2)]) below meth c H locs 0 0 QQ (F0 m 5 ls [])) := ⟨fun (A : Nat → Nat → Int) (x3 : Int) (x5 : Int) => ∀ (H : Heap) (locs : List Loc) (ls : Array Slot), va_P D vwCl (mw_w om R C z A) H → va_D Ad (mw_w om R C z A) → va_S Ad s.heap H locs → lv_has ls 11 [(0, .ref om), (1, .int (hz_i y1)), (2, .int (hz_i y2)), (3, .long (hz_l x3)), (5, .int (hz_i x5))] → W p l e (headSpec wsX12_fill ({ frames := 2, cells := 0, slots := 0, locals := 46 } : Room)).room s m (List.toArray [.ref om, .int (hz_i y1), .int (hz_i y2)]) below meth c H locs 0 0 QQ (F0 m 5 ls []), fun _ _ _ => Iff.rfl⟩
    refine (hP5 A x3 x5).mp (hw P5 ?_)
    intro A x3 x5 hw
    refine (hP5 A x3 x5).mpr ?_
    intro H locs ls hP hD hS hl
    have L19 : ∀ (A : Nat → Nat → Int) (x3 : Int) (x5 : Int) (x6 : Int), wp_fill_19 z A y1 y2 x3 x5 x6 P5 Q → ∀ (H : Heap) (locs : List Loc) (ls : Array Slot), va_P D vwCl (mw_w om R C z A) H → va_D Ad (mw_w om R C z A) → va_S Ad s.heap H locs → lv_has ls 11 [(0, .ref om), (1, .int (hz_i y1)), (2, .int (hz_i y2)), (3, .long (hz_l x3)), (5, .int (hz_i x5)), (6, .int (hz_i x6))] → W p l e (headSpec wsX12_fill ({ frames := 2, cells := 0, slots := 0, locals := 46 } : Room)).room s m (List.toArray [.ref om, .int (hz_i y1), .int (hz_i y2)]) below meth c H locs 0 0 QQ (F0 m 19 ls []) := by
      intro A x3 x5 x6 hw
      obtain ⟨P19, hP19⟩ : ∃ P : (Nat → Nat → Int) → Int → Int → Prop, ∀ (A : Nat → Nat → Int) (x3 : Int) (x6 : Int), P A x3 x6 ↔ (∀ (H : Heap) (locs : List Loc) (ls : Array Slot), va_P D vwCl (mw_w om R C z A) H → va_D Ad (mw_w om R C z A) → va_S Ad s.heap H locs → lv_has ls 11 [(0, .ref om), (1, .int (hz_i y1)), (2, .int (hz_i y2)), (3, .long (hz_l x3)), (5, .int (hz_i x5)), (6, .int (hz_i x6))] → W p l e (headSpec wsX12_fill ({ frames := 2, cells := 0, slots := 0, locals := 46 } : Room)).room s m (List.toArray [.ref om, .int (hz_i y1), .int (hz_i y2)]) below meth c H locs 0 0 QQ (F0 m 19 ls [])) := ⟨fun (A : Nat → Nat → Int) (x3 : Int) (x6 : Int) => ∀ (H : Heap) (locs : List Loc) (ls : Array Slot), va_P D vwCl (mw_w om R C z A) H → va_D Ad (mw_w om R C z A) → va_S Ad s.heap H locs → lv_has ls 11 [(0, .ref om), (1, .int (hz_i y1)), (2, .int (hz_i y2)), (3, .long (hz_l x3)), (5, .int (hz_i x5)), (6, .int (hz_i x6))] → W p l e (headSpec wsX12_fill ({ frames := 2, cells := 0, slots := 0, locals := 46 } : Room)).room s m (List.toArray [.ref om, .int (hz_i y1), .int (hz_i y2)]) below meth c H locs 0 0 QQ (F0 m 19 ls []), fun _ _ _ => Iff.rfl⟩
      refine (hP19 A x3 x6).mp (hw P19 ?_)
      intro A x3 x6 hw
      refine (hP19 A x3 x6).mpr ?_
      intro H locs ls hP hD hS hl
      have L33 : ∀ (A : Nat → Nat → Int) (x3 : Int) (x6 : Int) (x7 : Int), wp_fill_33 z A y1 y2 x3 x5 x6 x7 P5 P19 Q → ∀ (H : Heap) (locs : List Loc) (ls : Array Slot), va_P D vwCl (mw_w om R C z A) H → va_D Ad (mw_w om R C z A) → va_S Ad s.heap H locs → lv_has ls 11 [(0, .ref om), (1, .int (hz_i y1)), (2, .int (hz_i y2)), (3, .long (hz_l x3)), (5, .int (hz_i x5)), (6, .int (hz_i x6)), (7, .int (hz_i x7))] → W p l e (headSpec wsX12_fill ({ frames := 2, cells := 0, slots := 0, locals := 46 } : Room)).room s m (List.toArray [.ref om, .int (hz_i y1), .int (hz_i y2)]) below meth c H locs 0 0 QQ (F0 m 33 ls []) := by
        intro A x3 x6 x7 hw
        obtain ⟨P33, hP33⟩ : ∃ P : (Nat → Nat → Int) → Int → Int → Prop, ∀ (A : Nat → Nat → Int) (x3 : Int) (x7 : Int), P A x3 x7 ↔ (∀ (H : Heap) (locs : List Loc) (ls : Array Slot), va_P D vwCl (mw_w om R C z A) H → va_D Ad (mw_w om R C z A) → va_S Ad s.heap H locs → lv_has ls 11 [(0, .ref om), (1, .int (hz_i y1)), (2, .int (hz_i y2)), (3, .long (hz_l x3)), (5, .int (hz_i x5)), (6, .int (hz_i x6)), (7, .int (hz_i x7))] → W p l e (headSpec wsX12_fill ({ frames := 2, cells := 0, slots := 0, locals := 46 } : Room)).room s m (List.toArray [.ref om, .int (hz_i y1), .int (hz_i y2)]) below meth c H locs 0 0 QQ (F0 m 33 ls [])) := ⟨fun (A : Nat → Nat → Int) (x3 : Int) (x7 : Int) => ∀ (H : Heap) (locs : List Loc) (ls : Array Slot), va_P D vwCl (mw_w om R C z A) H → va_D Ad (mw_w om R C z A) → va_S Ad s.heap H locs → lv_has ls 11 [(0, .ref om), (1, .int (hz_i y1)), (2, .int (hz_i y2)), (3, .long (hz_l x3)), (5, .int (hz_i x5)), (6, .int (hz_i x6)), (7, .int (hz_i x7))] → W p l e (headSpec wsX12_fill ({ frames := 2, cells := 0, slots := 0, locals := 46 } : Room)).room s m (List.toArray [.ref om, .int (hz_i y1), .int (hz_i y2)]) below meth c H locs 0 0 QQ (F0 m 33 ls []), fun _ _ _ => Iff.rfl⟩
        refine (hP33 A x3 x7).mp (hw P33 ?_)
        intro A x3 x7 hw
        refine (hP33 A x3 x7).mpr ?_
        intro H locs ls hP hD hS hl
        have L85 : ∀ (A : Nat → Nat → Int) (x3 : Int) (x7 : Int), wp_fill_85 z A y1 y2 x3 x5 x6 x7 P5 P19 P33 Q → ∀ (H : Heap) (locs : List Loc) (ls : Array Slot), va_P D vwCl (mw_w om R C z A) H → va_D Ad (mw_w om R C z A) → va_S Ad s.heap H locs → lv_has ls 11 [(0, .ref om), (1, .int (hz_i y1)), (2, .int (hz_i y2)), (3, .long (hz_l x3)), (5, .int (hz_i x5)), (6, .int (hz_i x6)), (7, .int (hz_i x7))] → W p l e (headSpec wsX12_fill ({ frames := 2, cells := 0, slots := 0, locals := 46 } : Room)).room s m (List.toArray [.ref om, .int (hz_i y1), .int (hz_i y2)]) below meth c H locs 0 0 QQ (F0 m 85 ls []) := by
          intro A x3 x7 hw H locs ls hP hD hS hl
          refine lv_aload_n hx hb dX12_fill_85 rfl (lv_at hl 0 rfl) ?_
          refine lv_iconst (v := hz_i 1) hx hb dX12_fill_86 (by decide +kernel) ?_
          have hFc := mw_free hD hS hA
          refine va_calli (va_runV (As := [.int (hz_i 1)]) (rest := []) ⟨hx, hb, hml, hown, hts⟩ (k_nextPlan l D _ om R C z A 1 _ hw) (cwV 1 hts gX12_fill_X12_nextPlan rfl rfl rfl (by decide +kernel) ⟨Nat.le_of_ble_eq_true rfl, Nat.le_of_ble_eq_true rfl⟩) ⟨hm_blind, va_recv hK hP (ci := 12) (q0 := 0) rfl rfl, hm_pre hP hK hD hE⟩ rfl rfl hl.1 rfl (lv_room (Nat.le_of_ble_eq_true rfl)) dX12_fill_87 ⟨Nat.le_of_ble_eq_true rfl, Nat.le_of_ble_eq_true rfl⟩) hS (fun q _ h => hFc q h) hFc (fun rv u t H1 locs ht hvm hw hB hz1 hk1 hS => ?_)
          obtain ⟨r_1, _, A_2⟩ := u
          obtain ⟨hP, hK1, hD1⟩ := hB
          rw [ht] at hP
          obtain ⟨hrv, hw⟩ := hw
          subst hrv
          have hD := hD1.weaken (fun k q _ h => hFc q.1 h)
          have hP : va_P D vwCl (mw_w om R C z A_2) H1 := hP
          have hD : va_D Ad (mw_w om R C z A_2) := hD
          generalize H1 = H at hP hS ⊢
          refine W.eq (g2 := F0 m 90 ls [.int (hz_i r_1)]) rfl ?_
          refine lv_istore (lv' := [(10, .int (hz_i r_1)), (0, .ref om), (1, .int (hz_i y1)), (2, .int (hz_i y2)), (3, .long (hz_l x3)), (5, .int (hz_i x5)), (6, .int (hz_i x6)), (7, .int (hz_i x7))]) hx hb dX12_fill_90 hl (by decide) rfl (fun ls hl => ?_)
          obtain ⟨x7_3, hx7_3⟩ : ∃ y : Int, y = x7 + 1 := ⟨_, rfl⟩
          have hw := hw x7_3 hx7_3
          refine lv_iinc (v := hz_i x7_3) (lv' := [(7, .int (hz_i x7_3)), (10, .int (hz_i r_1)), (0, .ref om), (1, .int (hz_i y1)), (2, .int (hz_i y2)), (3, .long (hz_l x3)), (5, .int (hz_i x5)), (6, .int (hz_i x6))]) hx hb dX12_fill_92 hl (k := 7) rfl (by rw [hx7_3]; exact hz_i_add _ _) (by decide) rfl (fun ls hl => ?_)
          refine lv_goto (tgt := 33) hx hb dX12_fill_95 (by decide) ?_
          exact (hP33 A_2 x3 x7_3).mp hw H locs ls hP hD hS (lv_sub hl [2, 3, 4, 5, 6, 7, 0] rfl)
        have L63 : ∀ (A : Nat → Nat → Int) (x7 : Int) (t0 : Int), wp_fill_63 z A y1 y2 x5 x6 x7 t0 P5 P19 P33 Q → ∀ (H : Heap) (locs : List Loc) (ls : Array Slot), va_P D vwCl (mw_w om R C z A) H → va_D Ad (mw_w om R C z A) → va_S Ad s.heap H locs → lv_has ls 11 [(0, .ref om), (1, .int (hz_i y1)), (2, .int (hz_i y2)), (5, .int (hz_i x5)), (6, .int (hz_i x6)), (7, .int (hz_i x7))] → W p l e (headSpec wsX12_fill ({ frames := 2, cells := 0, slots := 0, locals := 46 } : Room)).room s m (List.toArray [.ref om, .int (hz_i y1), .int (hz_i y2)]) below meth c H locs 0 0 QQ (F0 m 63 ls [.long (hz_l t0)]) := by
          intro A x7 t0 hw H locs ls hP hD hS hl
          refine lv_lstore_n (lv' := [(3, .long (hz_l t0)), (0, .ref om), (1, .int (hz_i y1)), (2, .int (hz_i y2)), (5, .int (hz_i x5)), (6, .int (hz_i x6)), (7, .int (hz_i x7))]) hx hb dX12_fill_63 rfl hl (by decide) rfl (fun ls hl => ?_)
          refine lv_goto (tgt := 85) hx hb dX12_fill_64 (by decide) ?_
          exact L85 A t0 x7 hw H locs ls hP hD hS (lv_sub hl [1, 2, 3, 0, 4, 5, 6] rfl)
        refine lv_iload hx hb dX12_fill_33 (lv_at hl 6 rfl) ?_
        refine lv_iload_n hx hb dX12_fill_35 rfl (lv_at hl 2 rfl) ?_
        obtain ⟨h9a, hw⟩ := hw
        obtain ⟨h9b, hw⟩ := hw
        refine hz_icmp_ge (tgt := 98) hx hb dX12_fill_36 (by decide) h9a h9b (fun c_4 => ?_) (fun c_4 => ?_)
        · have hw := hw.1 c_4
          refine lv_aload_n hx hb dX12_fill_98 rfl (lv_at hl 0 rfl) ?_
          refine lv_iconst (v := hz_i 0) hx hb dX12_fill_99 (by decide +kernel) ?_
          have hFc := mw_free hD hS hA
          refine va_calli (va_runV (As := [.int (hz_i 0)]) (rest := []) ⟨hx, hb, hml, hown, hts⟩ (k_nextPlan l D _ om R C z A 0 _ hw) (cwV 1 hts gX12_fill_X12_nextPlan rfl rfl rfl (by decide +kernel) ⟨Nat.le_of_ble_eq_true rfl, Nat.le_of_ble_eq_true rfl⟩) ⟨hm_blind, va_recv hK hP (ci := 12) (q0 := 0) rfl rfl, hm_pre hP hK hD hE⟩ rfl rfl hl.1 rfl (lv_room (Nat.le_of_ble_eq_true rfl)) dX12_fill_100 ⟨Nat.le_of_ble_eq_true rfl, Nat.le_of_ble_eq_true rfl⟩) hS (fun q _ h => hFc q h) hFc (fun rv u t H1 locs ht hvm hw hB hz1 hk1 hS => ?_)
          obtain ⟨r_5, _, A_6⟩ := u
          obtain ⟨hP, hK1, hD1⟩ := hB
          rw [ht] at hP
          obtain ⟨hrv, hw⟩ := hw
          subst hrv
          have hD := hD1.weaken (fun k q _ h => hFc q.1 h)
          have hP : va_P D vwCl (mw_w om R C z A_6) H1 := hP
          have hD : va_D Ad (mw_w om R C z A_6) := hD
          generalize H1 = H at hP hS ⊢
          refine W.eq (g2 := F0 m 103 ls [.int (hz_i r_5)]) rfl ?_
          refine lv_istore (lv' := [(7, .int (hz_i r_5)), (0, .ref om), (1, .int (hz_i y1)), (2, .int (hz_i y2)), (3, .long (hz_l x3)), (5, .int (hz_i x5)), (6, .int (hz_i x6))]) hx hb dX12_fill_103 hl (by decide) rfl (fun ls hl => ?_)
          obtain ⟨x6_7, hx6_7⟩ : ∃ y : Int, y = x6 + 1 := ⟨_, rfl⟩
          have hw := hw x6_7 hx6_7
          refine lv_iinc (v := hz_i x6_7) (lv' := [(6, .int (hz_i x6_7)), (7, .int (hz_i r_5)), (0, .ref om), (1, .int (hz_i y1)), (2, .int (hz_i y2)), (3, .long (hz_l x3)), (5, .int (hz_i x5))]) hx hb dX12_fill_105 hl (k := 6) rfl (by rw [hx6_7]; exact hz_i_add _ _) (by decide) rfl (fun ls hl => ?_)
          refine lv_goto (tgt := 19) hx hb dX12_fill_108 (by decide) ?_
          exact (hP19 A_6 x3 x6_7).mp hw H locs ls hP hD hS (lv_sub hl [2, 3, 4, 5, 6, 0] rfl)
        · have hw := hw.2 c_4
          refine lv_aload_n hx hb dX12_fill_39 rfl (lv_at hl 0 rfl) ?_
          have hFc := mw_free hD hS hA
          refine va_calll (va_runV (As := []) (rest := []) ⟨hx, hb, hml, hown, hts⟩ (k_meet l D _ om R C z A _ hw) (cwV 0 hts gX12_fill_X12_meet rfl rfl rfl (by decide +kernel) ⟨Nat.le_of_ble_eq_true rfl, Nat.le_of_ble_eq_true rfl⟩) ⟨hm_blind, va_recv hK hP (ci := 12) (q0 := 0) rfl rfl, hm_pre hP hK hD hE⟩ rfl rfl hl.1 rfl (lv_room (Nat.le_of_ble_eq_true rfl)) dX12_fill_40 ⟨Nat.le_of_ble_eq_true rfl, Nat.le_of_ble_eq_true rfl⟩) hS (fun q _ h => hFc q h) hFc (fun rv u t H1 locs ht hvm hw hB hz1 hk1 hS => ?_)
          obtain ⟨r_8, _, _⟩ := u
          obtain ⟨hP, hK1, hD1⟩ := hB
          rw [ht] at hP
          obtain ⟨hrv, hw⟩ := hw
          subst hrv
          have hD := hD1.weaken (fun k q _ h => hFc q.1 h)
          have hP : va_P D vwCl (mw_w om R C z A) H1 := hP
          have hD : va_D Ad (mw_w om R C z A) := hD
          generalize H1 = H at hP hS ⊢
          refine W.eq (g2 := F0 m 43 ls [.long (hz_l r_8)]) rfl ?_
          refine lv_lstore (lv' := [(8, .long (hz_l r_8)), (0, .ref om), (1, .int (hz_i y1)), (2, .int (hz_i y2)), (3, .long (hz_l x3)), (5, .int (hz_i x5)), (6, .int (hz_i x6)), (7, .int (hz_i x7))]) hx hb dX12_fill_43 hl (by decide) rfl (fun ls hl => ?_)
          refine lv_iload hx hb dX12_fill_45 (lv_at hl 5 rfl) ?_
          obtain ⟨h9a, hw⟩ := hw
          refine hz_if_ne (tgt := 67) hx hb dX12_fill_47 (by decide) h9a (fun c_9 => ?_) (fun c_9 => ?_)
          · have hw := hw.1 c_9
            refine lv_aload_n hx hb dX12_fill_67 rfl (lv_at hl 1 rfl) ?_
            refine lv_aload_n hx hb dX12_fill_68 rfl (lv_at hl 1 rfl) ?_
            refine lv_iload hx hb dX12_fill_69 (lv_at hl 6 rfl) ?_
            refine lv_iload hx hb dX12_fill_71 (lv_at hl 7 rfl) ?_
            have hFc := mw_free hD hS hA
            refine va_calli (va_runV (As := [.int (hz_i x6), .int (hz_i x7)]) (rest := [.ref om]) ⟨hx, hb, hml, hown, hts⟩ (k_cell l D _ om R C z A x6 x7 _ hw) (cwV 2 hts gX12_fill_X12_cell rfl rfl rfl (by decide +kernel) ⟨Nat.le_of_ble_eq_true rfl, Nat.le_of_ble_eq_true rfl⟩) ⟨hm_blind, va_recv hK hP (ci := 12) (q0 := 0) rfl rfl, hm_pre hP hK hD hE⟩ rfl rfl hl.1 rfl (lv_room (Nat.le_of_ble_eq_true rfl)) dX12_fill_73 ⟨Nat.le_of_ble_eq_true rfl, Nat.le_of_ble_eq_true rfl⟩) hS (fun q _ h => hFc q h) hFc (fun rv u t H1 locs ht hvm hw hB hz1 hk1 hS => ?_)
            obtain ⟨r_10, _, _⟩ := u
            obtain ⟨hP, hK1, hD1⟩ := hB
            rw [ht] at hP
            obtain ⟨hrv, hw⟩ := hw
            subst hrv
            have hD := hD1.weaken (fun k q _ h => hFc q.1 h)
            have hP : va_P D vwCl (mw_w om R C z A) H1 := hP
            have hD : va_D Ad (mw_w om R C z A) := hD
            generalize H1 = H at hP hS ⊢
            refine W.eq (g2 := F0 m 76 ls [.int (hz_i r_10), .ref om]) rfl ?_
            refine lv_lload hx hb dX12_fill_76 (lv_at hl 0 rfl) ?_
            refine lv_lconst (v := hz_l 1) hx hb dX12_fill_78 (by decide +kernel) ?_
            refine hz_ladd hx hb dX12_fill_79 ?_
            refine lv_lload_n hx hb dX12_fill_80 rfl (lv_at hl 4 rfl) ?_
            refine hz_lsub hx hb dX12_fill_81 ?_
            have hFc := mw_free hD hS hA
            refine va_callv (va_runV (As := [.int (hz_i r_10), .long (hz_l ((r_8 + 1) - x3))]) (rest := []) ⟨hx, hb, hml, hown, hts⟩ (k_bigSet l D _ om R C z A r_10 ((r_8 + 1) - x3) _ hw) (cwV 2 hts gX12_fill_X12_bigSet rfl rfl rfl (by decide +kernel) ⟨Nat.le_of_ble_eq_true rfl, Nat.le_of_ble_eq_true rfl⟩) ⟨hm_blind, va_recv hK hP (ci := 12) (q0 := 0) rfl rfl, hm_pre hP hK hD hE⟩ rfl rfl hl.1 rfl (lv_room (Nat.le_of_ble_eq_true rfl)) dX12_fill_82 ⟨Nat.le_of_ble_eq_true rfl, Nat.le_of_ble_eq_true rfl⟩) hS (fun q _ h => hFc q h) hFc (fun u t H1 locs ht hvm hw hB hz1 hk1 hS => ?_)
            obtain ⟨r_11, _, A_12⟩ := u
            obtain ⟨hP, hK1, hD1⟩ := hB
            rw [ht] at hP
            have hD := hD1.weaken (fun k q _ h => hFc q.1 h)
            have hP : va_P D vwCl (mw_w om R C z A_12) H1 := hP
            have hD : va_D Ad (mw_w om R C z A_12) := hD
            generalize H1 = H at hP hS ⊢
            refine W.eq (g2 := F0 m 85 ls []) rfl ?_
            exact L85 A_12 x3 x7 hw H locs ls hP hD hS (lv_sub hl [1, 2, 3, 4, 5, 6, 7] rfl)
          · have hw := hw.2 c_9
            refine lv_lload hx hb dX12_fill_50 (lv_at hl 0 rfl) ?_
            refine lv_lload_n hx hb dX12_fill_52 rfl (lv_at hl 4 rfl) ?_
            obtain ⟨h9a, hw⟩ := hw
            obtain ⟨h9b, hw⟩ := hw
            refine hz_lcmp_ge (tgt := 62) hx hb dX12_fill_53 dX12_fill_54 (by decide) h9a h9b (fun c_13 => ?_) (fun c_13 => ?_)
            · have hw := hw.1 c_13
              refine lv_lload_n hx hb dX12_fill_62 rfl (lv_at hl 4 rfl) ?_
              exact L63 A x7 x3 hw H locs ls hP hD hS (lv_sub hl [1, 2, 3, 5, 6, 7] rfl)
            · have hw := hw.2 c_13
              refine lv_lload hx hb dX12_fill_57 (lv_at hl 0 rfl) ?_
              refine lv_goto (tgt := 63) hx hb dX12_fill_59 (by decide) ?_
              exact L63 A x7 r_8 hw H locs ls hP hD hS (lv_sub hl [1, 2, 3, 5, 6, 7] rfl)
      refine lv_iload hx hb dX12_fill_19 (lv_at hl 5 rfl) ?_
      refine lv_iload_n hx hb dX12_fill_21 rfl (lv_at hl 1 rfl) ?_
      obtain ⟨h9a, hw⟩ := hw
      obtain ⟨h9b, hw⟩ := hw
      refine hz_icmp_ge (tgt := 111) hx hb dX12_fill_22 (by decide) h9a h9b (fun c_14 => ?_) (fun c_14 => ?_)
      · have hw := hw.1 c_14
        obtain ⟨x5_15, hx5_15⟩ : ∃ y : Int, y = x5 + 1 := ⟨_, rfl⟩
        have hw := hw x5_15 hx5_15
        refine lv_iinc (v := hz_i x5_15) (lv' := [(5, .int (hz_i x5_15)), (0, .ref om), (1, .int (hz_i y1)), (2, .int (hz_i y2)), (3, .long (hz_l x3)), (6, .int (hz_i x6))]) hx hb dX12_fill_111 hl (k := 4) rfl (by rw [hx5_15]; exact hz_i_add _ _) (by decide) rfl (fun ls hl => ?_)
        refine lv_goto (tgt := 5) hx hb dX12_fill_114 (by decide) ?_
        exact (hP5 A x3 x5_15).mp hw H locs ls hP hD hS (lv_sub hl [1, 2, 3, 4, 0] rfl)
      · have hw := hw.2 c_14
        refine lv_aload_n hx hb dX12_fill_25 rfl (lv_at hl 0 rfl) ?_
        refine lv_iconst (v := hz_i 1) hx hb dX12_fill_26 (by decide +kernel) ?_
        have hFc := mw_free hD hS hA
        refine va_callv (va_runV (As := [.int (hz_i 1)]) (rest := []) ⟨hx, hb, hml, hown, hts⟩ (k_firstPlan l D _ om R C z A 1 _ hw) (cwV 1 hts gX12_fill_X12_firstPlan rfl rfl rfl (by decide +kernel) ⟨Nat.le_of_ble_eq_true rfl, Nat.le_of_ble_eq_true rfl⟩) ⟨hm_blind, va_recv hK hP (ci := 12) (q0 := 0) rfl rfl, hm_pre hP hK hD hE⟩ rfl rfl hl.1 rfl (lv_room (Nat.le_of_ble_eq_true rfl)) dX12_fill_27 ⟨Nat.le_of_ble_eq_true rfl, Nat.le_of_ble_eq_true rfl⟩) hS (fun q _ h => hFc q h) hFc (fun u t H1 locs ht hvm hw hB hz1 hk1 hS => ?_)
        obtain ⟨r_16, _, A_17⟩ := u
        obtain ⟨hP, hK1, hD1⟩ := hB
        rw [ht] at hP
        have hD := hD1.weaken (fun k q _ h => hFc q.1 h)
        have hP : va_P D vwCl (mw_w om R C z A_17) H1 := hP
        have hD : va_D Ad (mw_w om R C z A_17) := hD
        generalize H1 = H at hP hS ⊢
        refine W.eq (g2 := F0 m 30 ls []) rfl ?_
        refine lv_iconst (v := hz_i 0) hx hb dX12_fill_30 (by decide +kernel) ?_
        refine lv_istore (lv' := [(7, .int (hz_i 0)), (0, .ref om), (1, .int (hz_i y1)), (2, .int (hz_i y2)), (3, .long (hz_l x3)), (5, .int (hz_i x5)), (6, .int (hz_i x6))]) hx hb dX12_fill_31 hl (by decide) rfl (fun ls hl => ?_)
        exact L33 A_17 x3 x6 0 hw H locs ls hP hD hS (lv_sub hl [1, 2, 3, 4, 5, 6, 0] rfl)
    refine lv_iload hx hb dX12_fill_5 (lv_at hl 4 rfl) ?_
    refine lv_iconst (v := hz_i 2) hx hb dX12_fill_7 (by decide +kernel) ?_
    obtain ⟨h9a, hw⟩ := hw
    refine hz_icmp_ge (tgt := 117) hx hb dX12_fill_8 (by decide) h9a ⟨by decide, by decide⟩ (fun c_18 => ?_) (fun c_18 => ?_)
    · have hw := hw.1 c_18
      refine lv_lconst (v := hz_l 1) hx hb dX12_fill_117 (by decide +kernel) ?_
      refine lv_lload_n hx hb dX12_fill_118 rfl (lv_at hl 3 rfl) ?_
      refine hz_lsub hx hb dX12_fill_119 ?_
      subst hQQ
      subst hAe
      exact W.lret (v := hz_l (1 - x3)) hx hb hr (fun t ht hW => ⟨⟨hz_l (1 - x3), (1 - x3, z, A), rfl, ⟨rfl, hw⟩, by rw [ht]; exact hP, va_K.moved hW.alike hK, hD⟩, hS.F ht⟩) hS.2.2 dX12_fill_120
    · have hw := hw.2 c_18
      refine lv_aload_n hx hb dX12_fill_11 rfl (lv_at hl 0 rfl) ?_
      refine lv_iconst (v := hz_i 0) hx hb dX12_fill_12 (by decide +kernel) ?_
      have hFc := mw_free hD hS hA
      refine va_callv (va_runV (As := [.int (hz_i 0)]) (rest := []) ⟨hx, hb, hml, hown, hts⟩ (k_firstPlan l D _ om R C z A 0 _ hw) (cwV 1 hts gX12_fill_X12_firstPlan rfl rfl rfl (by decide +kernel) ⟨Nat.le_of_ble_eq_true rfl, Nat.le_of_ble_eq_true rfl⟩) ⟨hm_blind, va_recv hK hP (ci := 12) (q0 := 0) rfl rfl, hm_pre hP hK hD hE⟩ rfl rfl hl.1 rfl (lv_room (Nat.le_of_ble_eq_true rfl)) dX12_fill_13 ⟨Nat.le_of_ble_eq_true rfl, Nat.le_of_ble_eq_true rfl⟩) hS (fun q _ h => hFc q h) hFc (fun u t H1 locs ht hvm hw hB hz1 hk1 hS => ?_)
      obtain ⟨r_19, _, A_20⟩ := u
      obtain ⟨hP, hK1, hD1⟩ := hB
      rw [ht] at hP
      have hD := hD1.weaken (fun k q _ h => hFc q.1 h)
      have hP : va_P D vwCl (mw_w om R C z A_20) H1 := hP
      have hD : va_D Ad (mw_w om R C z A_20) := hD
      generalize H1 = H at hP hS ⊢
      refine W.eq (g2 := F0 m 16 ls []) rfl ?_
      refine lv_iconst (v := hz_i 0) hx hb dX12_fill_16 (by decide +kernel) ?_
      refine lv_istore (lv' := [(6, .int (hz_i 0)), (0, .ref om), (1, .int (hz_i y1)), (2, .int (hz_i y2)), (3, .long (hz_l x3)), (5, .int (hz_i x5))]) hx hb dX12_fill_17 hl (by decide) rfl (fun ls hl => ?_)
      exact L19 A_20 x3 x5 0 hw H locs ls hP hD hS (lv_sub hl [1, 2, 3, 4, 5, 0] rfl)
  have hP := hP0; have hD := hD0; have hS := hS0; have hl := hl0; have hw := hw0
  obtain ⟨H, hH⟩ : ∃ H : Heap, H = s.heap := ⟨_, rfl⟩
  obtain ⟨locs, hlocs⟩ : ∃ L : List Loc, L = [] := ⟨_, rfl⟩
  rw [← hH] at hP
  have hS : va_S Ad s.heap H locs := by rw [hH, hlocs]; exact hS
  refine mw_HL hH hlocs ?_
  refine lv_lconst (v := hz_l 0) hx hb dX12_fill_0 (by decide +kernel) ?_
  refine lv_lstore_n (lv' := [(3, .long (hz_l 0)), (0, .ref om), (1, .int (hz_i y1)), (2, .int (hz_i y2))]) hx hb dX12_fill_1 rfl hl (by decide) rfl (fun ls hl => ?_)
  refine lv_iconst (v := hz_i 0) hx hb dX12_fill_2 (by decide +kernel) ?_
  refine lv_istore (lv' := [(5, .int (hz_i 0)), (3, .long (hz_l 0)), (0, .ref om), (1, .int (hz_i y1)), (2, .int (hz_i y2))]) hx hb dX12_fill_3 hl (by decide) rfl (fun ls hl => ?_)
  exact L5 A 0 0 hw H locs ls hP hD hS (lv_sub hl [2, 3, 4, 1, 0] rfl)

noncomputable def wp_gaining_63 (z : Nat → Int) (A : Nat → Nat → Int) (y1 : Int) (y2 : Int) (x4 : Int) (t0 : Int) (P5 : Int → Int → Prop) (Q : Int → Prop) : Prop := ∀ x4_1 : Int, x4_1 = x4 + 1 → P5 t0 x4_1
noncomputable def wp_gaining_62 (z : Nat → Int) (A : Nat → Nat → Int) (y1 : Int) (y2 : Int) (x3 : Int) (x4 : Int) (P5 : Int → Int → Prop) (Q : Int → Prop) : Prop := wp_gaining_63 z A y1 y2 x4 x3 P5 Q
noncomputable def wp_gaining_57 (z : Nat → Int) (A : Nat → Nat → Int) (y1 : Int) (y2 : Int) (x4 : Int) (P5 : Int → Int → Prop) (Q : Int → Prop) : Prop := wp_gaining_63 z A y1 y2 x4 x4 P5 Q
noncomputable def wp_gaining_30 (z : Nat → Int) (A : Nat → Nat → Int) (y1 : Int) (y2 : Int) (x3 : Int) (x4 : Int) (t0 : Int) (P5 : Int → Int → Prop) (Q : Int → Prop) : Prop := hz_rI t0 ∧ ((t0 = 0 → wp_gaining_62 z A y1 y2 x3 x4 P5 Q) ∧ (¬ (t0 = 0) → hz_rI x3 ∧ ((x3 < 0 → wp_gaining_57 z A y1 y2 x4 P5 Q) ∧ (¬ (x3 < 0) → (0 ≤ x4 ∧ x4 < 65) ∧ (0 ≤ x3 ∧ x3 < 65) ∧ hz_rI (A 55 (x4.toNat)) ∧ hz_rI (A 55 (x3.toNat)) ∧ ((A 55 (x3.toNat) ≤ A 55 (x4.toNat) → wp_gaining_62 z A y1 y2 x3 x4 P5 Q) ∧ (¬ (A 55 (x3.toNat) ≤ A 55 (x4.toNat)) → wp_gaining_57 z A y1 y2 x4 P5 Q))))))
noncomputable def wp_gaining_5 (z : Nat → Int) (A : Nat → Nat → Int) (y1 : Int) (y2 : Int) (x3 : Int) (x4 : Int) (Q : Int → Prop) : Prop := ∀ P5 : Int → Int → Prop, (∀ (x3 : Int) (x4 : Int), hz_rI x4 ∧ hz_rI y2 ∧ ((y2 ≤ x4 → Q x3) ∧ (¬ (y2 ≤ x4) → wp_cell z A y1 x4 (fun r_6 => wp_bigSign z A r_6 (fun r_7 => hz_rI r_7 ∧ ((0 ≤ r_7 → wp_gaining_30 z A y1 y2 x3 x4 0 P5 Q) ∧ (¬ (0 ≤ r_7) → wp_gaining_30 z A y1 y2 x3 x4 1 P5 Q)))))) → P5 x3 x4) → P5 x3 x4
noncomputable def wp_gaining (z : Nat → Int) (A : Nat → Nat → Int) (y1 : Int) (y2 : Int) (Q : Int → Prop) : Prop := wp_gaining_5 z A y1 y2 (-1) 0  Q
set_option maxHeartbeats 4000000 in
set_option maxRecDepth 100000 in
theorem k_gaining (l : Launch) (D : va_G) (sz : Nat) (om : Nat) (R : Nat → Nat) (C : Nat → ClassId) (z : Nat → Int) (A : Nat → Nat → Int) (y1 : Int) (y2 : Int) (Q : Int → Prop) (hw : wp_gaining z A y1 y2 Q) : Met l yX12_gaining wsX12_gaining ({ frames := 1, cells := 0, slots := 0, locals := 22 } : Room) (va_Pc [.ref om, .int (hz_i y1), .int (hz_i y2)] (hm_P D (mw_w om R C z A) (mw_t C) sz)) (va_Qi (S := Int × (Nat → Int) × (Nat → Nat → Int)) (fun r u => r = hz_i u.1 ∧ Q u.1) (fun u t => hm_B D (va_A (mw_w om R C z A) sz) (mw_w om R C z A) (mw_t C) t) (va_A (mw_w om R C z A) sz)) 0 0 (va_A (mw_w om R C z A) sz) := by
  refine Met.ofW (cc := cX12_gaining) (maxL := 6) (ret := (some .int)) (by decide) rfl ?_
  intro p e s m args below meth c s₁ B hml hv
  obtain ⟨rfl, hsz, hP, hK, hD0, hE⟩ := hv
  have hx := B.exec
  have hb := B.bytes
  have hr := B.returns
  have hts := atoms_spec (ws := wsX12_gaining) B.pre
  have hown : s.vm.findClass RX12 = some m.cls := findClass_of_methodNamed B.named
  have hlocks := B.notSynchronized
  have hin12 : ∀ w ∈ u_ws RX12 TX12 58, w ∈ wsX12_gaining := fun w h => List.mem_cons_of_mem _ (List.mem_append_right _ (h))
  subst hsz
  have hD := hD0.self (sz := s.heap.size)
  generalize hAe : va_A (mw_w om R C z A) s.heap.size = Ad at hD ⊢
  have hA : ∀ q : Nat, s.heap.size ≤ q → Ad q := fun q h => by rw [← hAe]; exact Or.inr h
  have hS : va_S Ad s.heap s.heap [] := va_S.rf
  have hl := lv_entry ([.ref om, .int (hz_i y1), .int (hz_i y2)]) (n := 6) (Nat.le_of_ble_eq_true rfl)
  rw [lg_entry_eq]
  generalize (lg_sl ([.ref om, .int (hz_i y1), .int (hz_i y2)]) ++ List.replicate (6 - (lg_sl ([.ref om, .int (hz_i y1), .int (hz_i y2)])).length) Slot.unset).toArray = ls at hl ⊢
  have hl : lv_has ls 6 [(0, .ref om), (1, .int (hz_i y1)), (2, .int (hz_i y2))] := hl
  refine mw_Q (fun QQ hQQ => ?_)
  have hP0 := hP; have hD0 := hD; have hS0 := hS; have hl0 := hl; have hw0 := hw
  clear hP hD hS hl hw
  have L5 : ∀ (x3 : Int) (x4 : Int), wp_gaining_5 z A y1 y2 x3 x4  Q → ∀ (H : Heap) (locs : List Loc) (ls : Array Slot), va_P D vwCl (mw_w om R C z A) H → va_D Ad (mw_w om R C z A) → va_S Ad s.heap H locs → lv_has ls 6 [(0, .ref om), (1, .int (hz_i y1)), (2, .int (hz_i y2)), (3, .int (hz_i x3)), (4, .int (hz_i x4))] → W p l e (headSpec wsX12_gaining ({ frames := 1, cells := 0, slots := 0, locals := 22 } : Room)).room s m (List.toArray [.ref om, .int (hz_i y1), .int (hz_i y2)]) below meth c H locs 0 0 QQ (F0 m 5 ls []) := by
    intro x3 x4 hw
    obtain ⟨P5, hP5⟩ : ∃ P : Int → Int → Prop, ∀ (x3 : Int) (x4 : Int), P x3 x4 ↔ (∀ (H : Heap) (locs : List Loc) (ls : Array Slot), va_P D vwCl (mw_w om R C z A) H → va_D Ad (mw_w om R C z A) → va_S Ad s.heap H locs → lv_has ls 6 [(0, .ref om), (1, .int (hz_i y1)), (2, .int (hz_i y2)), (3, .int (hz_i x3)), (4, .int (hz_i x4))] → W p l e (headSpec wsX12_gaining ({ frames := 1, cells := 0, slots := 0, locals := 22 } : Room)).room s m (List.toArray [.ref om, .int (hz_i y1), .int (hz_i y2)]) below meth c H locs 0 0 QQ (F0 m 5 ls [])) := ⟨fun (x3 : Int) (x4 : Int) => ∀ (H : Heap) (locs : List Loc) (ls : Array Slot), va_P D vwCl (mw_w om R C z A) H → va_D Ad (mw_w om R C z A) → va_S Ad s.heap H locs → lv_has ls 6 [(0, .ref om), (1, .int (hz_i y1)), (2, .int (hz_i y2)), (3, .int (hz_i x3)), (4, .int (hz_i x4))] → W p l e (headSpec wsX12_gaining ({ frames := 1, cells := 0, slots := 0, locals := 22 } : Room)).room s m (List.toArray [.ref om, .int (hz_i y1), .int (hz_i y2)]) below meth c H locs 0 0 QQ (F0 m 5 ls []), fun _ _ => Iff.rfl⟩
    refine (hP5 x3 x4).mp (hw P5 ?_)
    intro x3 x4 hw
    refine (hP5 x3 x4).mpr ?_
    intro H locs ls hP hD hS hl
    have L63 : ∀ (x4 : Int) (t0 : Int), wp_gaining_63 z A y1 y2 x4 t0 P5 Q → ∀ (H : Heap) (locs : List Loc) (ls : Array Slot), va_P D vwCl (mw_w om R C z A) H → va_D Ad (mw_w om R C z A) → va_S Ad s.heap H locs → lv_has ls 6 [(0, .ref om), (1, .int (hz_i y1)), (2, .int (hz_i y2)), (4, .int (hz_i x4))] → W p l e (headSpec wsX12_gaining ({ frames := 1, cells := 0, slots := 0, locals := 22 } : Room)).room s m (List.toArray [.ref om, .int (hz_i y1), .int (hz_i y2)]) below meth c H locs 0 0 QQ (F0 m 63 ls [.int (hz_i t0)]) := by
      intro x4 t0 hw H locs ls hP hD hS hl
      refine lv_istore_n (lv' := [(3, .int (hz_i t0)), (0, .ref om), (1, .int (hz_i y1)), (2, .int (hz_i y2)), (4, .int (hz_i x4))]) hx hb dX12_gaining_63 rfl hl (by decide) rfl (fun ls hl => ?_)
      obtain ⟨x4_1, hx4_1⟩ : ∃ y : Int, y = x4 + 1 := ⟨_, rfl⟩
      have hw := hw x4_1 hx4_1
      refine lv_iinc (v := hz_i x4_1) (lv' := [(4, .int (hz_i x4_1)), (3, .int (hz_i t0)), (0, .ref om), (1, .int (hz_i y1)), (2, .int (hz_i y2))]) hx hb dX12_gaining_64 hl (k := 4) rfl (by rw [hx4_1]; exact hz_i_add _ _) (by decide) rfl (fun ls hl => ?_)
      refine lv_goto (tgt := 5) hx hb dX12_gaining_67 (by decide) ?_
      exact (hP5 t0 x4_1).mp hw H locs ls hP hD hS (lv_sub hl [2, 3, 4, 1, 0] rfl)
    have L62 : ∀ (x3 : Int) (x4 : Int), wp_gaining_62 z A y1 y2 x3 x4 P5 Q → ∀ (H : Heap) (locs : List Loc) (ls : Array Slot), va_P D vwCl (mw_w om R C z A) H → va_D Ad (mw_w om R C z A) → va_S Ad s.heap H locs → lv_has ls 6 [(0, .ref om), (1, .int (hz_i y1)), (2, .int (hz_i y2)), (3, .int (hz_i x3)), (4, .int (hz_i x4))] → W p l e (headSpec wsX12_gaining ({ frames := 1, cells := 0, slots := 0, locals := 22 } : Room)).room s m (List.toArray [.ref om, .int (hz_i y1), .int (hz_i y2)]) below meth c H locs 0 0 QQ (F0 m 62 ls []) := by
      intro x3 x4 hw H locs ls hP hD hS hl
      refine lv_iload_n hx hb dX12_gaining_62 rfl (lv_at hl 3 rfl) ?_
      exact L63 x4 x3 hw H locs ls hP hD hS (lv_sub hl [0, 1, 2, 4] rfl)
    have L57 : ∀ (x4 : Int), wp_gaining_57 z A y1 y2 x4 P5 Q → ∀ (H : Heap) (locs : List Loc) (ls : Array Slot), va_P D vwCl (mw_w om R C z A) H → va_D Ad (mw_w om R C z A) → va_S Ad s.heap H locs → lv_has ls 6 [(0, .ref om), (1, .int (hz_i y1)), (2, .int (hz_i y2)), (4, .int (hz_i x4))] → W p l e (headSpec wsX12_gaining ({ frames := 1, cells := 0, slots := 0, locals := 22 } : Room)).room s m (List.toArray [.ref om, .int (hz_i y1), .int (hz_i y2)]) below meth c H locs 0 0 QQ (F0 m 57 ls []) := by
      intro x4 hw H locs ls hP hD hS hl
      refine lv_iload hx hb dX12_gaining_57 (lv_at hl 3 rfl) ?_
      refine lv_goto (tgt := 63) hx hb dX12_gaining_59 (by decide) ?_
      exact L63 x4 x4 hw H locs ls hP hD hS (lv_sub hl [0, 1, 2, 3] rfl)
    have L30 : ∀ (x3 : Int) (x4 : Int) (t0 : Int), wp_gaining_30 z A y1 y2 x3 x4 t0 P5 Q → ∀ (H : Heap) (locs : List Loc) (ls : Array Slot), va_P D vwCl (mw_w om R C z A) H → va_D Ad (mw_w om R C z A) → va_S Ad s.heap H locs → lv_has ls 6 [(0, .ref om), (1, .int (hz_i y1)), (2, .int (hz_i y2)), (3, .int (hz_i x3)), (4, .int (hz_i x4))] → W p l e (headSpec wsX12_gaining ({ frames := 1, cells := 0, slots := 0, locals := 22 } : Room)).room s m (List.toArray [.ref om, .int (hz_i y1), .int (hz_i y2)]) below meth c H locs 0 0 QQ (F0 m 30 ls [.int (hz_i t0)]) := by
      intro x3 x4 t0 hw H locs ls hP hD hS hl
      refine lv_istore (lv' := [(5, .int (hz_i t0)), (0, .ref om), (1, .int (hz_i y1)), (2, .int (hz_i y2)), (3, .int (hz_i x3)), (4, .int (hz_i x4))]) hx hb dX12_gaining_30 hl (by decide) rfl (fun ls hl => ?_)
      refine lv_iload hx hb dX12_gaining_32 (lv_at hl 0 rfl) ?_
      obtain ⟨h9a, hw⟩ := hw
      refine hz_if_eq (tgt := 62) hx hb dX12_gaining_34 (by decide) h9a (fun c_2 => ?_) (fun c_2 => ?_)
      · have hw := hw.1 c_2
        exact L62 x3 x4 hw H locs ls hP hD hS (lv_sub hl [1, 2, 3, 4, 5] rfl)
      · have hw := hw.2 c_2
        refine lv_iload_n hx hb dX12_gaining_37 rfl (lv_at hl 4 rfl) ?_
        obtain ⟨h9a, hw⟩ := hw
        refine hz_if_lt (tgt := 57) hx hb dX12_gaining_38 (by decide) h9a (fun c_3 => ?_) (fun c_3 => ?_)
        · have hw := hw.1 c_3
          exact L57 x4 hw H locs ls hP hD hS (lv_sub hl [1, 2, 3, 5] rfl)
        · have hw := hw.2 c_3
          refine lv_aload_n hx hb dX12_gaining_41 rfl (lv_at hl 1 rfl) ?_
          refine mw_get (v := .ref (R 55)) hx hb hts hin12 hown hK hP 55 (by decide) (hts (.fieldLink RX12 217 "HiddenMovesModel" "columnOf" "[I") (List.mem_cons_of_mem _ (List.mem_append_left _ (List.mem_of_getElem? (i := 0) rfl)))) (fun _ h9 => h9) rfl dX12_gaining_42 ?_
          refine lv_iload hx hb dX12_gaining_45 (lv_at hl 5 rfl) ?_
          obtain ⟨h9i, hw⟩ := hw
          refine mw_ild (k := 55) (n := 65) (i := x4) hx hb hK hP 42 41 rfl rfl h9i (by decide) dX12_gaining_47 ?_
          refine lv_aload_n hx hb dX12_gaining_48 rfl (lv_at hl 1 rfl) ?_
          refine mw_get (v := .ref (R 55)) hx hb hts hin12 hown hK hP 55 (by decide) (hts (.fieldLink RX12 217 "HiddenMovesModel" "columnOf" "[I") (List.mem_cons_of_mem _ (List.mem_append_left _ (List.mem_of_getElem? (i := 0) rfl)))) (fun _ h9 => h9) rfl dX12_gaining_49 ?_
          refine lv_iload_n hx hb dX12_gaining_52 rfl (lv_at hl 4 rfl) ?_
          obtain ⟨h9i, hw⟩ := hw
          refine mw_ild (k := 55) (n := 65) (i := x3) hx hb hK hP 42 41 rfl rfl h9i (by decide) dX12_gaining_53 ?_
          obtain ⟨h9a, hw⟩ := hw
          obtain ⟨h9b, hw⟩ := hw
          refine hz_icmp_ge (tgt := 62) hx hb dX12_gaining_54 (by decide) h9a h9b (fun c_4 => ?_) (fun c_4 => ?_)
          · have hw := hw.1 c_4
            exact L62 x3 x4 hw H locs ls hP hD hS (lv_sub hl [1, 2, 3, 4, 5] rfl)
          · have hw := hw.2 c_4
            exact L57 x4 hw H locs ls hP hD hS (lv_sub hl [1, 2, 3, 5] rfl)
    refine lv_iload hx hb dX12_gaining_5 (lv_at hl 4 rfl) ?_
    refine lv_iload_n hx hb dX12_gaining_7 rfl (lv_at hl 2 rfl) ?_
    obtain ⟨h9a, hw⟩ := hw
    obtain ⟨h9b, hw⟩ := hw
    refine hz_icmp_ge (tgt := 70) hx hb dX12_gaining_8 (by decide) h9a h9b (fun c_5 => ?_) (fun c_5 => ?_)
    · have hw := hw.1 c_5
      refine lv_iload_n hx hb dX12_gaining_70 rfl (lv_at hl 3 rfl) ?_
      subst hQQ
      subst hAe
      exact W.iret (v := hz_i x3) hx hb hr (fun t ht hW => ⟨⟨hz_i x3, (x3, z, A), rfl, ⟨rfl, hw⟩, by rw [ht]; exact hP, va_K.moved hW.alike hK, hD⟩, hS.F ht⟩) hS.2.2 dX12_gaining_71
    · have hw := hw.2 c_5
      refine lv_aload_n hx hb dX12_gaining_11 rfl (lv_at hl 0 rfl) ?_
      refine lv_aload_n hx hb dX12_gaining_12 rfl (lv_at hl 0 rfl) ?_
      refine lv_iload_n hx hb dX12_gaining_13 rfl (lv_at hl 1 rfl) ?_
      refine lv_iload hx hb dX12_gaining_14 (lv_at hl 4 rfl) ?_
      have hFc := mw_free hD hS hA
      refine va_calli (va_runV (As := [.int (hz_i y1), .int (hz_i x4)]) (rest := [.ref om]) ⟨hx, hb, hml, hown, hts⟩ (k_cell l D _ om R C z A y1 x4 _ hw) (cwV 2 hts gX12_gaining_X12_cell rfl rfl rfl (by decide +kernel) ⟨Nat.le_of_ble_eq_true rfl, Nat.le_of_ble_eq_true rfl⟩) ⟨hm_blind, va_recv hK hP (ci := 12) (q0 := 0) rfl rfl, hm_pre hP hK hD hE⟩ rfl rfl hl.1 rfl (lv_room (Nat.le_of_ble_eq_true rfl)) dX12_gaining_16 ⟨Nat.le_of_ble_eq_true rfl, Nat.le_of_ble_eq_true rfl⟩) hS (fun q _ h => hFc q h) hFc (fun rv u t H1 locs ht hvm hw hB hz1 hk1 hS => ?_)
      obtain ⟨r_6, _, _⟩ := u
      obtain ⟨hP, hK1, hD1⟩ := hB
      rw [ht] at hP
      obtain ⟨hrv, hw⟩ := hw
      subst hrv
      have hD := hD1.weaken (fun k q _ h => hFc q.1 h)
      have hP : va_P D vwCl (mw_w om R C z A) H1 := hP
      have hD : va_D Ad (mw_w om R C z A) := hD
      generalize H1 = H at hP hS ⊢
      refine W.eq (g2 := F0 m 19 ls [.int (hz_i r_6), .ref om]) rfl ?_
      have hFc := mw_free hD hS hA
      refine va_calli (va_runV (As := [.int (hz_i r_6)]) (rest := []) ⟨hx, hb, hml, hown, hts⟩ (k_bigSign l D _ om R C z A r_6 _ hw) (cwV 1 hts gX12_gaining_X12_bigSign rfl rfl rfl (by decide +kernel) ⟨Nat.le_of_ble_eq_true rfl, Nat.le_of_ble_eq_true rfl⟩) ⟨hm_blind, va_recv hK hP (ci := 12) (q0 := 0) rfl rfl, hm_pre hP hK hD hE⟩ rfl rfl hl.1 rfl (lv_room (Nat.le_of_ble_eq_true rfl)) dX12_gaining_19 ⟨Nat.le_of_ble_eq_true rfl, Nat.le_of_ble_eq_true rfl⟩) hS (fun q _ h => hFc q h) hFc (fun rv u t H1 locs ht hvm hw hB hz1 hk1 hS => ?_)
      obtain ⟨r_7, _, _⟩ := u
      obtain ⟨hP, hK1, hD1⟩ := hB
      rw [ht] at hP
      obtain ⟨hrv, hw⟩ := hw
      subst hrv
      have hD := hD1.weaken (fun k q _ h => hFc q.1 h)
      have hP : va_P D vwCl (mw_w om R C z A) H1 := hP
      have hD : va_D Ad (mw_w om R C z A) := hD
      generalize H1 = H at hP hS ⊢
      refine W.eq (g2 := F0 m 22 ls [.int (hz_i r_7)]) rfl ?_
      obtain ⟨h9a, hw⟩ := hw
      refine hz_if_ge (tgt := 29) hx hb dX12_gaining_22 (by decide) h9a (fun c_8 => ?_) (fun c_8 => ?_)
      · have hw := hw.1 c_8
        refine lv_iconst (v := hz_i 0) hx hb dX12_gaining_29 (by decide +kernel) ?_
        exact L30 x3 x4 0 hw H locs ls hP hD hS (lv_sub hl [0, 1, 2, 3, 4] rfl)
      · have hw := hw.2 c_8
        refine lv_iconst (v := hz_i 1) hx hb dX12_gaining_25 (by decide +kernel) ?_
        refine lv_goto (tgt := 30) hx hb dX12_gaining_26 (by decide) ?_
        exact L30 x3 x4 1 hw H locs ls hP hD hS (lv_sub hl [0, 1, 2, 3, 4] rfl)
  have hP := hP0; have hD := hD0; have hS := hS0; have hl := hl0; have hw := hw0
  obtain ⟨H, hH⟩ : ∃ H : Heap, H = s.heap := ⟨_, rfl⟩
  obtain ⟨locs, hlocs⟩ : ∃ L : List Loc, L = [] := ⟨_, rfl⟩
  rw [← hH] at hP
  have hS : va_S Ad s.heap H locs := by rw [hH, hlocs]; exact hS
  refine mw_HL hH hlocs ?_
  refine lv_iconst (v := hz_i (-1)) hx hb dX12_gaining_0 (by decide +kernel) ?_
  refine lv_istore_n (lv' := [(3, .int (hz_i (-1))), (0, .ref om), (1, .int (hz_i y1)), (2, .int (hz_i y2))]) hx hb dX12_gaining_1 rfl hl (by decide) rfl (fun ls hl => ?_)
  refine lv_iconst (v := hz_i 0) hx hb dX12_gaining_2 (by decide +kernel) ?_
  refine lv_istore (lv' := [(4, .int (hz_i 0)), (3, .int (hz_i (-1))), (0, .ref om), (1, .int (hz_i y1)), (2, .int (hz_i y2))]) hx hb dX12_gaining_3 hl (by decide) rfl (fun ls hl => ?_)
  exact L5 (-1) 0 hw H locs ls hP hD hS (lv_sub hl [2, 3, 4, 1, 0] rfl)

noncomputable def wp_rowFor_126 (z : Nat → Int) (A : Nat → Nat → Int) (y1 : Int) (y2 : Int) (y3 : Int) (x4 : Int) (x5 : Int) (P6 : (Nat → Nat → Int) → Int → Int → Prop) (Q : Int → (Nat → Nat → Int) → Prop) : Prop := ∀ x5_1 : Int, x5_1 = x5 + 1 → P6 A x4 x5_1
noncomputable def wp_rowFor_124 (z : Nat → Int) (A : Nat → Nat → Int) (y1 : Int) (y2 : Int) (y3 : Int) (x5 : Int) (t0 : Int) (P6 : (Nat → Nat → Int) → Int → Int → Prop) (Q : Int → (Nat → Nat → Int) → Prop) : Prop := wp_rowFor_126 z A y1 y2 y3 t0 x5 P6 Q
noncomputable def wp_rowFor_122 (z : Nat → Int) (A : Nat → Nat → Int) (y1 : Int) (y2 : Int) (y3 : Int) (x4 : Int) (x5 : Int) (P6 : (Nat → Nat → Int) → Int → Int → Prop) (Q : Int → (Nat → Nat → Int) → Prop) : Prop := wp_rowFor_124 z A y1 y2 y3 x5 x4 P6 Q
noncomputable def wp_rowFor_117 (z : Nat → Int) (A : Nat → Nat → Int) (y1 : Int) (y2 : Int) (y3 : Int) (x5 : Int) (P6 : (Nat → Nat → Int) → Int → Int → Prop) (Q : Int → (Nat → Nat → Int) → Prop) : Prop := wp_rowFor_124 z A y1 y2 y3 x5 x5 P6 Q
noncomputable def wp_rowFor_90 (z : Nat → Int) (A : Nat → Nat → Int) (y1 : Int) (y2 : Int) (y3 : Int) (x4 : Int) (x5 : Int) (x7 : Int) (P6 : (Nat → Nat → Int) → Int → Int → Prop) (Q : Int → (Nat → Nat → Int) → Prop) : Prop := hz_rI x7 ∧ ((x7 < 0 → wp_rowFor_117 z A y1 y2 y3 x5 P6 Q) ∧ (¬ (x7 < 0) → hz_rI x7 ∧ ((¬ x7 = 0 → wp_rowFor_122 z A y1 y2 y3 x4 x5 P6 Q) ∧ (x7 = 0 → (0 ≤ x5 ∧ x5 < 65) ∧ (0 ≤ x4 ∧ x4 < 65) ∧ hz_rI (A 54 (x5.toNat)) ∧ hz_rI (A 54 (x4.toNat)) ∧ ((A 54 (x4.toNat) ≤ A 54 (x5.toNat) → wp_rowFor_122 z A y1 y2 y3 x4 x5 P6 Q) ∧ (¬ (A 54 (x4.toNat) ≤ A 54 (x5.toNat)) → wp_rowFor_117 z A y1 y2 y3 x5 P6 Q))))))
noncomputable def wp_rowFor_6 (z : Nat → Int) (A : Nat → Nat → Int) (y1 : Int) (y2 : Int) (y3 : Int) (x4 : Int) (x5 : Int) (Q : Int → (Nat → Nat → Int) → Prop) : Prop := ∀ P6 : (Nat → Nat → Int) → Int → Int → Prop, (∀ (A : Nat → Nat → Int) (x4 : Int) (x5 : Int), hz_rI x5 ∧ hz_rI y2 ∧ ((y2 ≤ x5 → Q x4 A) ∧ (¬ (y2 ≤ x5) → wp_cell z A x5 y1 (fun r_6 => wp_bigSign z A r_6 (fun r_7 => hz_rI r_7 ∧ ((0 < r_7 → hz_rI x4 ∧ ((x4 < 0 → wp_rowFor_90 z A y1 y2 y3 x4 x5 (-1) P6 Q) ∧ (¬ (x4 < 0) → wp_cell z A x5 y3 (fun r_10 => wp_cell z A x4 y1 (fun r_11 => wp_bigProduct z A 4243 r_10 r_11 (fun A_13 => wp_cell z A_13 x4 y3 (fun r_14 => wp_bigProduct z A_13 4244 r_14 r_6 (fun A_16 => wp_bigCompare z A_16 4243 4244 (fun r_17 => wp_rowFor_90 z A_16 y1 y2 y3 x4 x5 r_17 P6 Q))))))))) ∧ (¬ (0 < r_7) → wp_rowFor_126 z A y1 y2 y3 x4 x5 P6 Q)))))) → P6 A x4 x5) → P6 A x4 x5
noncomputable def wp_rowFor (z : Nat → Int) (A : Nat → Nat → Int) (y1 : Int) (y2 : Int) (y3 : Int) (Q : Int → (Nat → Nat → Int) → Prop) : Prop := wp_rowFor_6 z A y1 y2 y3 (-1) 0  Q
set_option maxHeartbeats 4000000 in
set_option maxRecDepth 100000 in
theorem k_rowFor (l : Launch) (D : va_G) (sz : Nat) (om : Nat) (R : Nat → Nat) (C : Nat → ClassId) (z : Nat → Int) (A : Nat → Nat → Int) (y1 : Int) (y2 : Int) (y3 : Int) (Q : Int → (Nat → Nat → Int) → Prop) (hw : wp_rowFor z A y1 y2 y3 Q) : Met l yX12_rowFor wsX12_rowFor ({ frames := 4, cells := 0, slots := 0, locals := 89 } : Room) (va_Pc [.ref om, .int (hz_i y1), .int (hz_i y2), .int (hz_i y3)] (hm_P D (mw_w om R C z A) (mw_t C) sz)) (va_Qi (S := Int × (Nat → Int) × (Nat → Nat → Int)) (fun r u => r = hz_i u.1 ∧ Q u.1 u.2.2) (fun u t => hm_B D (va_A (mw_w om R C z A) sz) (mw_w om R C z u.2.2) (mw_t C) t) (va_A (mw_w om R C z A) sz)) 0 0 (va_A (mw_w om R C z A) sz) := by
  refine Met.ofW (cc := cX12_rowFor) (maxL := 8) (ret := (some .int)) (by decide) rfl ?_
  intro p e s m args below meth c s₁ B hml hv
  obtain ⟨rfl, hsz, hP, hK, hD0, hE⟩ := hv
  have hx := B.exec
  have hb := B.bytes
  have hr := B.returns
  have hts := atoms_spec (ws := wsX12_rowFor) B.pre
  have hown : s.vm.findClass RX12 = some m.cls := findClass_of_methodNamed B.named
  have hlocks := B.notSynchronized
  have hin12 : ∀ w ∈ u_ws RX12 TX12 58, w ∈ wsX12_rowFor := fun w h => List.mem_cons_of_mem _ (List.mem_append_right _ (h))
  subst hsz
  have hD := hD0.self (sz := s.heap.size)
  generalize hAe : va_A (mw_w om R C z A) s.heap.size = Ad at hD ⊢
  have hA : ∀ q : Nat, s.heap.size ≤ q → Ad q := fun q h => by rw [← hAe]; exact Or.inr h
  have hS : va_S Ad s.heap s.heap [] := va_S.rf
  have hl := lv_entry ([.ref om, .int (hz_i y1), .int (hz_i y2), .int (hz_i y3)]) (n := 8) (Nat.le_of_ble_eq_true rfl)
  rw [lg_entry_eq]
  generalize (lg_sl ([.ref om, .int (hz_i y1), .int (hz_i y2), .int (hz_i y3)]) ++ List.replicate (8 - (lg_sl ([.ref om, .int (hz_i y1), .int (hz_i y2), .int (hz_i y3)])).length) Slot.unset).toArray = ls at hl ⊢
  have hl : lv_has ls 8 [(0, .ref om), (1, .int (hz_i y1)), (2, .int (hz_i y2)), (3, .int (hz_i y3))] := hl
  refine mw_Q (fun QQ hQQ => ?_)
  have hP0 := hP; have hD0 := hD; have hS0 := hS; have hl0 := hl; have hw0 := hw
  clear hP hD hS hl hw
  have L6 : ∀ (A : Nat → Nat → Int) (x4 : Int) (x5 : Int), wp_rowFor_6 z A y1 y2 y3 x4 x5  Q → ∀ (H : Heap) (locs : List Loc) (ls : Array Slot), va_P D vwCl (mw_w om R C z A) H → va_D Ad (mw_w om R C z A) → va_S Ad s.heap H locs → lv_has ls 8 [(0, .ref om), (1, .int (hz_i y1)), (2, .int (hz_i y2)), (3, .int (hz_i y3)), (4, .int (hz_i x4)), (5, .int (hz_i x5))] → W p l e (headSpec wsX12_rowFor ({ frames := 4, cells := 0, slots := 0, locals := 89 } : Room)).room s m (List.toArray [.ref om, .int (hz_i y1), .int (hz_i y2), .int (hz_i y3)]) below meth c H locs 0 0 QQ (F0 m 6 ls []) := by
    intro A x4 x5 hw
    obtain ⟨P6, hP6⟩ : ∃ P : (Nat → Nat → Int) → Int → Int → Prop, ∀ (A : Nat → Nat → Int) (x4 : Int) (x5 : Int), P A x4 x5 ↔ (∀ (H : Heap) (locs : List Loc) (ls : Array Slot), va_P D vwCl (mw_w om R C z A) H → va_D Ad (mw_w om R C z A) → va_S Ad s.heap H locs → lv_has ls 8 [(0, .ref om), (1, .int (hz_i y1)), (2, .int (hz_i y2)), (3, .int (hz_i y3)), (4, .int (hz_i x4)), (5, .int (hz_i x5))] → W p l e (headSpec wsX12_rowFor ({ frames := 4, cells := 0, slots := 0, locals := 89 } : Room)).room s m (List.toArray [.ref om, .int (hz_i y1), .int (hz_i y2), .int (hz_i y3)]) below meth c H locs 0 0 QQ (F0 m 6 ls [])) := ⟨fun (A : Nat → Nat → Int) (x4 : Int) (x5 : Int) => ∀ (H : Heap) (locs : List Loc) (ls : Array Slot), va_P D vwCl (mw_w om R C z A) H → va_D Ad (mw_w om R C z A) → va_S Ad s.heap H locs → lv_has ls 8 [(0, .ref om), (1, .int (hz_i y1)), (2, .int (hz_i y2)), (3, .int (hz_i y3)), (4, .int (hz_i x4)), (5, .int (hz_i x5))] → W p l e (headSpec wsX12_rowFor ({ frames := 4, cells := 0, slots := 0, locals := 89 } : Room)).room s m (List.toArray [.ref om, .int (hz_i y1), .int (hz_i y2), .int (hz_i y3)]) below meth c H locs 0 0 QQ (F0 m 6 ls []), fun _ _ _ => Iff.rfl⟩
    refine (hP6 A x4 x5).mp (hw P6 ?_)
    intro A x4 x5 hw
    refine (hP6 A x4 x5).mpr ?_
    intro H locs ls hP hD hS hl
    have L126 : ∀ (A : Nat → Nat → Int) (x4 : Int) (x5 : Int), wp_rowFor_126 z A y1 y2 y3 x4 x5 P6 Q → ∀ (H : Heap) (locs : List Loc) (ls : Array Slot), va_P D vwCl (mw_w om R C z A) H → va_D Ad (mw_w om R C z A) → va_S Ad s.heap H locs → lv_has ls 8 [(0, .ref om), (1, .int (hz_i y1)), (2, .int (hz_i y2)), (3, .int (hz_i y3)), (4, .int (hz_i x4)), (5, .int (hz_i x5))] → W p l e (headSpec wsX12_rowFor ({ frames := 4, cells := 0, slots := 0, locals := 89 } : Room)).room s m (List.toArray [.ref om, .int (hz_i y1), .int (hz_i y2), .int (hz_i y3)]) below meth c H locs 0 0 QQ (F0 m 126 ls []) := by
      intro A x4 x5 hw H locs ls hP hD hS hl
      obtain ⟨x5_1, hx5_1⟩ : ∃ y : Int, y = x5 + 1 := ⟨_, rfl⟩
      have hw := hw x5_1 hx5_1
      refine lv_iinc (v := hz_i x5_1) (lv' := [(5, .int (hz_i x5_1)), (0, .ref om), (1, .int (hz_i y1)), (2, .int (hz_i y2)), (3, .int (hz_i y3)), (4, .int (hz_i x4))]) hx hb dX12_rowFor_126 hl (k := 5) rfl (by rw [hx5_1]; exact hz_i_add _ _) (by decide) rfl (fun ls hl => ?_)
      refine lv_goto (tgt := 6) hx hb dX12_rowFor_129 (by decide) ?_
      exact (hP6 A x4 x5_1).mp hw H locs ls hP hD hS (lv_sub hl [1, 2, 3, 4, 5, 0] rfl)
    have L124 : ∀ (A : Nat → Nat → Int) (x5 : Int) (t0 : Int), wp_rowFor_124 z A y1 y2 y3 x5 t0 P6 Q → ∀ (H : Heap) (locs : List Loc) (ls : Array Slot), va_P D vwCl (mw_w om R C z A) H → va_D Ad (mw_w om R C z A) → va_S Ad s.heap H locs → lv_has ls 8 [(0, .ref om), (1, .int (hz_i y1)), (2, .int (hz_i y2)), (3, .int (hz_i y3)), (5, .int (hz_i x5))] → W p l e (headSpec wsX12_rowFor ({ frames := 4, cells := 0, slots := 0, locals := 89 } : Room)).room s m (List.toArray [.ref om, .int (hz_i y1), .int (hz_i y2), .int (hz_i y3)]) below meth c H locs 0 0 QQ (F0 m 124 ls [.int (hz_i t0)]) := by
      intro A x5 t0 hw H locs ls hP hD hS hl
      refine lv_istore (lv' := [(4, .int (hz_i t0)), (0, .ref om), (1, .int (hz_i y1)), (2, .int (hz_i y2)), (3, .int (hz_i y3)), (5, .int (hz_i x5))]) hx hb dX12_rowFor_124 hl (by decide) rfl (fun ls hl => ?_)
      exact L126 A t0 x5 hw H locs ls hP hD hS (lv_sub hl [1, 2, 3, 4, 0, 5] rfl)
    have L122 : ∀ (A : Nat → Nat → Int) (x4 : Int) (x5 : Int), wp_rowFor_122 z A y1 y2 y3 x4 x5 P6 Q → ∀ (H : Heap) (locs : List Loc) (ls : Array Slot), va_P D vwCl (mw_w om R C z A) H → va_D Ad (mw_w om R C z A) → va_S Ad s.heap H locs → lv_has ls 8 [(0, .ref om), (1, .int (hz_i y1)), (2, .int (hz_i y2)), (3, .int (hz_i y3)), (4, .int (hz_i x4)), (5, .int (hz_i x5))] → W p l e (headSpec wsX12_rowFor ({ frames := 4, cells := 0, slots := 0, locals := 89 } : Room)).room s m (List.toArray [.ref om, .int (hz_i y1), .int (hz_i y2), .int (hz_i y3)]) below meth c H locs 0 0 QQ (F0 m 122 ls []) := by
      intro A x4 x5 hw H locs ls hP hD hS hl
      refine lv_iload hx hb dX12_rowFor_122 (lv_at hl 4 rfl) ?_
      exact L124 A x5 x4 hw H locs ls hP hD hS (lv_sub hl [0, 1, 2, 3, 5] rfl)
    have L117 : ∀ (A : Nat → Nat → Int) (x5 : Int), wp_rowFor_117 z A y1 y2 y3 x5 P6 Q → ∀ (H : Heap) (locs : List Loc) (ls : Array Slot), va_P D vwCl (mw_w om R C z A) H → va_D Ad (mw_w om R C z A) → va_S Ad s.heap H locs → lv_has ls 8 [(0, .ref om), (1, .int (hz_i y1)), (2, .int (hz_i y2)), (3, .int (hz_i y3)), (5, .int (hz_i x5))] → W p l e (headSpec wsX12_rowFor ({ frames := 4, cells := 0, slots := 0, locals := 89 } : Room)).room s m (List.toArray [.ref om, .int (hz_i y1), .int (hz_i y2), .int (hz_i y3)]) below meth c H locs 0 0 QQ (F0 m 117 ls []) := by
      intro A x5 hw H locs ls hP hD hS hl
      refine lv_iload hx hb dX12_rowFor_117 (lv_at hl 4 rfl) ?_
      refine lv_goto (tgt := 124) hx hb dX12_rowFor_119 (by decide) ?_
      exact L124 A x5 x5 hw H locs ls hP hD hS (lv_sub hl [0, 1, 2, 3, 4] rfl)
    have L90 : ∀ (A : Nat → Nat → Int) (x4 : Int) (x5 : Int) (x7 : Int), wp_rowFor_90 z A y1 y2 y3 x4 x5 x7 P6 Q → ∀ (H : Heap) (locs : List Loc) (ls : Array Slot), va_P D vwCl (mw_w om R C z A) H → va_D Ad (mw_w om R C z A) → va_S Ad s.heap H locs → lv_has ls 8 [(0, .ref om), (1, .int (hz_i y1)), (2, .int (hz_i y2)), (3, .int (hz_i y3)), (4, .int (hz_i x4)), (5, .int (hz_i x5)), (7, .int (hz_i x7))] → W p l e (headSpec wsX12_rowFor ({ frames := 4, cells := 0, slots := 0, locals := 89 } : Room)).room s m (List.toArray [.ref om, .int (hz_i y1), .int (hz_i y2), .int (hz_i y3)]) below meth c H locs 0 0 QQ (F0 m 90 ls []) := by
      intro A x4 x5 x7 hw H locs ls hP hD hS hl
      refine lv_iload hx hb dX12_rowFor_90 (lv_at hl 6 rfl) ?_
      obtain ⟨h9a, hw⟩ := hw
      refine hz_if_lt (tgt := 117) hx hb dX12_rowFor_92 (by decide) h9a (fun c_2 => ?_) (fun c_2 => ?_)
      · have hw := hw.1 c_2
        exact L117 A x5 hw H locs ls hP hD hS (lv_sub hl [0, 1, 2, 3, 5] rfl)
      · have hw := hw.2 c_2
        refine lv_iload hx hb dX12_rowFor_95 (lv_at hl 6 rfl) ?_
        obtain ⟨h9a, hw⟩ := hw
        refine hz_if_ne (tgt := 122) hx hb dX12_rowFor_97 (by decide) h9a (fun c_3 => ?_) (fun c_3 => ?_)
        · have hw := hw.1 c_3
          exact L122 A x4 x5 hw H locs ls hP hD hS (lv_sub hl [0, 1, 2, 3, 4, 5] rfl)
        · have hw := hw.2 c_3
          refine lv_aload_n hx hb dX12_rowFor_100 rfl (lv_at hl 0 rfl) ?_
          refine mw_get (v := .ref (R 54)) hx hb hts hin12 hown hK hP 54 (by decide) (hts (.fieldLink RX12 214 "HiddenMovesModel" "rowOf" "[I") (List.mem_cons_of_mem _ (List.mem_append_left _ (List.mem_append_left _ (List.mem_of_getElem? (i := 0) rfl))))) (fun _ h9 => h9) rfl dX12_rowFor_101 ?_
          refine lv_iload hx hb dX12_rowFor_104 (lv_at hl 5 rfl) ?_
          obtain ⟨h9i, hw⟩ := hw
          refine mw_ild (k := 54) (n := 65) (i := x5) hx hb hK hP 41 40 rfl rfl h9i (by decide) dX12_rowFor_106 ?_
          refine lv_aload_n hx hb dX12_rowFor_107 rfl (lv_at hl 0 rfl) ?_
          refine mw_get (v := .ref (R 54)) hx hb hts hin12 hown hK hP 54 (by decide) (hts (.fieldLink RX12 214 "HiddenMovesModel" "rowOf" "[I") (List.mem_cons_of_mem _ (List.mem_append_left _ (List.mem_append_left _ (List.mem_of_getElem? (i := 0) rfl))))) (fun _ h9 => h9) rfl dX12_rowFor_108 ?_
          refine lv_iload hx hb dX12_rowFor_111 (lv_at hl 4 rfl) ?_
          obtain ⟨h9i, hw⟩ := hw
          refine mw_ild (k := 54) (n := 65) (i := x4) hx hb hK hP 41 40 rfl rfl h9i (by decide) dX12_rowFor_113 ?_
          obtain ⟨h9a, hw⟩ := hw
          obtain ⟨h9b, hw⟩ := hw
          refine hz_icmp_ge (tgt := 122) hx hb dX12_rowFor_114 (by decide) h9a h9b (fun c_4 => ?_) (fun c_4 => ?_)
          · have hw := hw.1 c_4
            exact L122 A x4 x5 hw H locs ls hP hD hS (lv_sub hl [0, 1, 2, 3, 4, 5] rfl)
          · have hw := hw.2 c_4
            exact L117 A x5 hw H locs ls hP hD hS (lv_sub hl [0, 1, 2, 3, 5] rfl)
    refine lv_iload hx hb dX12_rowFor_6 (lv_at hl 5 rfl) ?_
    refine lv_iload_n hx hb dX12_rowFor_8 rfl (lv_at hl 2 rfl) ?_
    obtain ⟨h9a, hw⟩ := hw
    obtain ⟨h9b, hw⟩ := hw
    refine hz_icmp_ge (tgt := 132) hx hb dX12_rowFor_9 (by decide) h9a h9b (fun c_5 => ?_) (fun c_5 => ?_)
    · have hw := hw.1 c_5
      refine lv_iload hx hb dX12_rowFor_132 (lv_at hl 4 rfl) ?_
      subst hQQ
      subst hAe
      exact W.iret (v := hz_i x4) hx hb hr (fun t ht hW => ⟨⟨hz_i x4, (x4, z, A), rfl, ⟨rfl, hw⟩, by rw [ht]; exact hP, va_K.moved hW.alike hK, hD⟩, hS.F ht⟩) hS.2.2 dX12_rowFor_134
    · have hw := hw.2 c_5
      refine lv_aload_n hx hb dX12_rowFor_12 rfl (lv_at hl 0 rfl) ?_
      refine lv_iload hx hb dX12_rowFor_13 (lv_at hl 5 rfl) ?_
      refine lv_iload_n hx hb dX12_rowFor_15 rfl (lv_at hl 1 rfl) ?_
      have hFc := mw_free hD hS hA
      refine va_calli (va_runV (As := [.int (hz_i x5), .int (hz_i y1)]) (rest := []) ⟨hx, hb, hml, hown, hts⟩ (k_cell l D _ om R C z A x5 y1 _ hw) (cwV 2 hts gX12_rowFor_X12_cell rfl rfl rfl (by decide +kernel) ⟨Nat.le_of_ble_eq_true rfl, Nat.le_of_ble_eq_true rfl⟩) ⟨hm_blind, va_recv hK hP (ci := 12) (q0 := 0) rfl rfl, hm_pre hP hK hD hE⟩ rfl rfl hl.1 rfl (lv_room (Nat.le_of_ble_eq_true rfl)) dX12_rowFor_16 ⟨Nat.le_of_ble_eq_true rfl, Nat.le_of_ble_eq_true rfl⟩) hS (fun q _ h => hFc q h) hFc (fun rv u t H1 locs ht hvm hw hB hz1 hk1 hS => ?_)
      obtain ⟨r_6, _, _⟩ := u
      obtain ⟨hP, hK1, hD1⟩ := hB
      rw [ht] at hP
      obtain ⟨hrv, hw⟩ := hw
      subst hrv
      have hD := hD1.weaken (fun k q _ h => hFc q.1 h)
      have hP : va_P D vwCl (mw_w om R C z A) H1 := hP
      have hD : va_D Ad (mw_w om R C z A) := hD
      generalize H1 = H at hP hS ⊢
      refine W.eq (g2 := F0 m 19 ls [.int (hz_i r_6)]) rfl ?_
      refine lv_istore (lv' := [(6, .int (hz_i r_6)), (0, .ref om), (1, .int (hz_i y1)), (2, .int (hz_i y2)), (3, .int (hz_i y3)), (4, .int (hz_i x4)), (5, .int (hz_i x5))]) hx hb dX12_rowFor_19 hl (by decide) rfl (fun ls hl => ?_)
      refine lv_aload_n hx hb dX12_rowFor_21 rfl (lv_at hl 1 rfl) ?_
      refine lv_iload hx hb dX12_rowFor_22 (lv_at hl 0 rfl) ?_
      have hFc := mw_free hD hS hA
      refine va_calli (va_runV (As := [.int (hz_i r_6)]) (rest := []) ⟨hx, hb, hml, hown, hts⟩ (k_bigSign l D _ om R C z A r_6 _ hw) (cwV 1 hts gX12_rowFor_X12_bigSign rfl rfl rfl (by decide +kernel) ⟨Nat.le_of_ble_eq_true rfl, Nat.le_of_ble_eq_true rfl⟩) ⟨hm_blind, va_recv hK hP (ci := 12) (q0 := 0) rfl rfl, hm_pre hP hK hD hE⟩ rfl rfl hl.1 rfl (lv_room (Nat.le_of_ble_eq_true rfl)) dX12_rowFor_24 ⟨Nat.le_of_ble_eq_true rfl, Nat.le_of_ble_eq_true rfl⟩) hS (fun q _ h => hFc q h) hFc (fun rv u t H1 locs ht hvm hw hB hz1 hk1 hS => ?_)
      obtain ⟨r_7, _, _⟩ := u
      obtain ⟨hP, hK1, hD1⟩ := hB
      rw [ht] at hP
      obtain ⟨hrv, hw⟩ := hw
      subst hrv
      have hD := hD1.weaken (fun k q _ h => hFc q.1 h)
      have hP : va_P D vwCl (mw_w om R C z A) H1 := hP
      have hD : va_D Ad (mw_w om R C z A) := hD
      generalize H1 = H at hP hS ⊢
      refine W.eq (g2 := F0 m 27 ls [.int (hz_i r_7)]) rfl ?_
      obtain ⟨h9a, hw⟩ := hw
      refine hz_if_gt (tgt := 33) hx hb dX12_rowFor_27 (by decide) h9a (fun c_8 => ?_) (fun c_8 => ?_)
      · have hw := hw.1 c_8
        refine lv_iconst (v := hz_i (-1)) hx hb dX12_rowFor_33 (by decide +kernel) ?_
        refine lv_istore (lv' := [(7, .int (hz_i (-1))), (6, .int (hz_i r_6)), (0, .ref om), (1, .int (hz_i y1)), (2, .int (hz_i y2)), (3, .int (hz_i y3)), (4, .int (hz_i x4)), (5, .int (hz_i x5))]) hx hb dX12_rowFor_34 hl (by decide) rfl (fun ls hl => ?_)
        refine lv_iload hx hb dX12_rowFor_36 (lv_at hl 6 rfl) ?_
        obtain ⟨h9a, hw⟩ := hw
        refine hz_if_lt (tgt := 90) hx hb dX12_rowFor_38 (by decide) h9a (fun c_9 => ?_) (fun c_9 => ?_)
        · have hw := hw.1 c_9
          exact L90 A x4 x5 (-1) hw H locs ls hP hD hS (lv_sub hl [2, 3, 4, 5, 6, 7, 0] rfl)
        · have hw := hw.2 c_9
          refine lv_aload_n hx hb dX12_rowFor_41 rfl (lv_at hl 2 rfl) ?_
          refine lv_sipush (v := hz_i 4243) hx hb dX12_rowFor_42 (by decide +kernel) ?_
          refine lv_aload_n hx hb dX12_rowFor_45 rfl (lv_at hl 2 rfl) ?_
          refine lv_iload hx hb dX12_rowFor_46 (lv_at hl 7 rfl) ?_
          refine lv_iload_n hx hb dX12_rowFor_48 rfl (lv_at hl 5 rfl) ?_
          have hFc := mw_free hD hS hA
          refine va_calli (va_runV (As := [.int (hz_i x5), .int (hz_i y3)]) (rest := [.int (hz_i 4243), .ref om]) ⟨hx, hb, hml, hown, hts⟩ (k_cell l D _ om R C z A x5 y3 _ hw) (cwV 2 hts gX12_rowFor_X12_cell rfl rfl rfl (by decide +kernel) ⟨Nat.le_of_ble_eq_true rfl, Nat.le_of_ble_eq_true rfl⟩) ⟨hm_blind, va_recv hK hP (ci := 12) (q0 := 0) rfl rfl, hm_pre hP hK hD hE⟩ rfl rfl hl.1 rfl (lv_room (Nat.le_of_ble_eq_true rfl)) dX12_rowFor_49 ⟨Nat.le_of_ble_eq_true rfl, Nat.le_of_ble_eq_true rfl⟩) hS (fun q _ h => hFc q h) hFc (fun rv u t H1 locs ht hvm hw hB hz1 hk1 hS => ?_)
          obtain ⟨r_10, _, _⟩ := u
          obtain ⟨hP, hK1, hD1⟩ := hB
          rw [ht] at hP
          obtain ⟨hrv, hw⟩ := hw
          subst hrv
          have hD := hD1.weaken (fun k q _ h => hFc q.1 h)
          have hP : va_P D vwCl (mw_w om R C z A) H1 := hP
          have hD : va_D Ad (mw_w om R C z A) := hD
          generalize H1 = H at hP hS ⊢
          refine W.eq (g2 := F0 m 52 ls [.int (hz_i r_10), .int (hz_i 4243), .ref om]) rfl ?_
          refine lv_aload_n hx hb dX12_rowFor_52 rfl (lv_at hl 2 rfl) ?_
          refine lv_iload hx hb dX12_rowFor_53 (lv_at hl 6 rfl) ?_
          refine lv_iload_n hx hb dX12_rowFor_55 rfl (lv_at hl 3 rfl) ?_
          have hFc := mw_free hD hS hA
          refine va_calli (va_runV (As := [.int (hz_i x4), .int (hz_i y1)]) (rest := [.int (hz_i r_10), .int (hz_i 4243), .ref om]) ⟨hx, hb, hml, hown, hts⟩ (k_cell l D _ om R C z A x4 y1 _ hw) (cwV 2 hts gX12_rowFor_X12_cell rfl rfl rfl (by decide +kernel) ⟨Nat.le_of_ble_eq_true rfl, Nat.le_of_ble_eq_true rfl⟩) ⟨hm_blind, va_recv hK hP (ci := 12) (q0 := 0) rfl rfl, hm_pre hP hK hD hE⟩ rfl rfl hl.1 rfl (lv_room (Nat.le_of_ble_eq_true rfl)) dX12_rowFor_56 ⟨Nat.le_of_ble_eq_true rfl, Nat.le_of_ble_eq_true rfl⟩) hS (fun q _ h => hFc q h) hFc (fun rv u t H1 locs ht hvm hw hB hz1 hk1 hS => ?_)
          obtain ⟨r_11, _, _⟩ := u
          obtain ⟨hP, hK1, hD1⟩ := hB
          rw [ht] at hP
          obtain ⟨hrv, hw⟩ := hw
          subst hrv
          have hD := hD1.weaken (fun k q _ h => hFc q.1 h)
          have hP : va_P D vwCl (mw_w om R C z A) H1 := hP
          have hD : va_D Ad (mw_w om R C z A) := hD
          generalize H1 = H at hP hS ⊢
          refine W.eq (g2 := F0 m 59 ls [.int (hz_i r_11), .int (hz_i r_10), .int (hz_i 4243), .ref om]) rfl ?_
          have hFc := mw_free hD hS hA
          refine va_callv (va_runV (As := [.int (hz_i 4243), .int (hz_i r_10), .int (hz_i r_11)]) (rest := []) ⟨hx, hb, hml, hown, hts⟩ (k_bigProduct l D _ om R C z A 4243 r_10 r_11 _ hw) (cwV 3 hts gX12_rowFor_X12_bigProduct rfl rfl rfl (by decide +kernel) ⟨Nat.le_of_ble_eq_true rfl, Nat.le_of_ble_eq_true rfl⟩) ⟨hm_blind, va_recv hK hP (ci := 12) (q0 := 0) rfl rfl, hm_pre hP hK hD hE⟩ rfl rfl hl.1 rfl (lv_room (Nat.le_of_ble_eq_true rfl)) dX12_rowFor_59 ⟨Nat.le_of_ble_eq_true rfl, Nat.le_of_ble_eq_true rfl⟩) hS (fun q _ h => hFc q h) hFc (fun u t H1 locs ht hvm hw hB hz1 hk1 hS => ?_)
          obtain ⟨r_12, _, A_13⟩ := u
          obtain ⟨hP, hK1, hD1⟩ := hB
          rw [ht] at hP
          have hD := hD1.weaken (fun k q _ h => hFc q.1 h)
          have hP : va_P D vwCl (mw_w om R C z A_13) H1 := hP
          have hD : va_D Ad (mw_w om R C z A_13) := hD
          generalize H1 = H at hP hS ⊢
          refine W.eq (g2 := F0 m 62 ls []) rfl ?_
          refine lv_aload_n hx hb dX12_rowFor_62 rfl (lv_at hl 2 rfl) ?_
          refine lv_sipush (v := hz_i 4244) hx hb dX12_rowFor_63 (by decide +kernel) ?_
          refine lv_aload_n hx hb dX12_rowFor_66 rfl (lv_at hl 2 rfl) ?_
          refine lv_iload hx hb dX12_rowFor_67 (lv_at hl 6 rfl) ?_
          refine lv_iload_n hx hb dX12_rowFor_69 rfl (lv_at hl 5 rfl) ?_
          have hFc := mw_free hD hS hA
          refine va_calli (va_runV (As := [.int (hz_i x4), .int (hz_i y3)]) (rest := [.int (hz_i 4244), .ref om]) ⟨hx, hb, hml, hown, hts⟩ (k_cell l D _ om R C z A_13 x4 y3 _ hw) (cwV 2 hts gX12_rowFor_X12_cell rfl rfl rfl (by decide +kernel) ⟨Nat.le_of_ble_eq_true rfl, Nat.le_of_ble_eq_true rfl⟩) ⟨hm_blind, va_recv hK hP (ci := 12) (q0 := 0) rfl rfl, hm_pre hP hK hD hE⟩ rfl rfl hl.1 rfl (lv_room (Nat.le_of_ble_eq_true rfl)) dX12_rowFor_70 ⟨Nat.le_of_ble_eq_true rfl, Nat.le_of_ble_eq_true rfl⟩) hS (fun q _ h => hFc q h) hFc (fun rv u t H1 locs ht hvm hw hB hz1 hk1 hS => ?_)
          obtain ⟨r_14, _, _⟩ := u
          obtain ⟨hP, hK1, hD1⟩ := hB
          rw [ht] at hP
          obtain ⟨hrv, hw⟩ := hw
          subst hrv
          have hD := hD1.weaken (fun k q _ h => hFc q.1 h)
          have hP : va_P D vwCl (mw_w om R C z A_13) H1 := hP
          have hD : va_D Ad (mw_w om R C z A_13) := hD
          generalize H1 = H at hP hS ⊢
          refine W.eq (g2 := F0 m 73 ls [.int (hz_i r_14), .int (hz_i 4244), .ref om]) rfl ?_
          refine lv_iload hx hb dX12_rowFor_73 (lv_at hl 1 rfl) ?_
          have hFc := mw_free hD hS hA
          refine va_callv (va_runV (As := [.int (hz_i 4244), .int (hz_i r_14), .int (hz_i r_6)]) (rest := []) ⟨hx, hb, hml, hown, hts⟩ (k_bigProduct l D _ om R C z A_13 4244 r_14 r_6 _ hw) (cwV 3 hts gX12_rowFor_X12_bigProduct rfl rfl rfl (by decide +kernel) ⟨Nat.le_of_ble_eq_true rfl, Nat.le_of_ble_eq_true rfl⟩) ⟨hm_blind, va_recv hK hP (ci := 12) (q0 := 0) rfl rfl, hm_pre hP hK hD hE⟩ rfl rfl hl.1 rfl (lv_room (Nat.le_of_ble_eq_true rfl)) dX12_rowFor_75 ⟨Nat.le_of_ble_eq_true rfl, Nat.le_of_ble_eq_true rfl⟩) hS (fun q _ h => hFc q h) hFc (fun u t H1 locs ht hvm hw hB hz1 hk1 hS => ?_)
          obtain ⟨r_15, _, A_16⟩ := u
          obtain ⟨hP, hK1, hD1⟩ := hB
          rw [ht] at hP
          have hD := hD1.weaken (fun k q _ h => hFc q.1 h)
          have hP : va_P D vwCl (mw_w om R C z A_16) H1 := hP
          have hD : va_D Ad (mw_w om R C z A_16) := hD
          generalize H1 = H at hP hS ⊢
          refine W.eq (g2 := F0 m 78 ls []) rfl ?_
          refine lv_aload_n hx hb dX12_rowFor_78 rfl (lv_at hl 2 rfl) ?_
          refine lv_sipush (v := hz_i 4243) hx hb dX12_rowFor_79 (by decide +kernel) ?_
          refine lv_sipush (v := hz_i 4244) hx hb dX12_rowFor_82 (by decide +kernel) ?_
          have hFc := mw_free hD hS hA
          refine va_calli (va_runV (As := [.int (hz_i 4243), .int (hz_i 4244)]) (rest := []) ⟨hx, hb, hml, hown, hts⟩ (k_bigCompare l D _ om R C z A_16 4243 4244 _ hw) (cwV 2 hts gX12_rowFor_X12_bigCompare rfl rfl rfl (by decide +kernel) ⟨Nat.le_of_ble_eq_true rfl, Nat.le_of_ble_eq_true rfl⟩) ⟨hm_blind, va_recv hK hP (ci := 12) (q0 := 0) rfl rfl, hm_pre hP hK hD hE⟩ rfl rfl hl.1 rfl (lv_room (Nat.le_of_ble_eq_true rfl)) dX12_rowFor_85 ⟨Nat.le_of_ble_eq_true rfl, Nat.le_of_ble_eq_true rfl⟩) hS (fun q _ h => hFc q h) hFc (fun rv u t H1 locs ht hvm hw hB hz1 hk1 hS => ?_)
          obtain ⟨r_17, _, _⟩ := u
          obtain ⟨hP, hK1, hD1⟩ := hB
          rw [ht] at hP
          obtain ⟨hrv, hw⟩ := hw
          subst hrv
          have hD := hD1.weaken (fun k q _ h => hFc q.1 h)
          have hP : va_P D vwCl (mw_w om R C z A_16) H1 := hP
          have hD : va_D Ad (mw_w om R C z A_16) := hD
          generalize H1 = H at hP hS ⊢
          refine W.eq (g2 := F0 m 88 ls [.int (hz_i r_17)]) rfl ?_
          refine lv_istore (lv' := [(7, .int (hz_i r_17)), (6, .int (hz_i r_6)), (0, .ref om), (1, .int (hz_i y1)), (2, .int (hz_i y2)), (3, .int (hz_i y3)), (4, .int (hz_i x4)), (5, .int (hz_i x5))]) hx hb dX12_rowFor_88 hl (by decide) rfl (fun ls hl => ?_)
          exact L90 A_16 x4 x5 r_17 hw H locs ls hP hD hS (lv_sub hl [2, 3, 4, 5, 6, 7, 0] rfl)
      · have hw := hw.2 c_8
        refine lv_goto (tgt := 126) hx hb dX12_rowFor_30 (by decide) ?_
        exact L126 A x4 x5 hw H locs ls hP hD hS (lv_sub hl [1, 2, 3, 4, 5, 6] rfl)
  have hP := hP0; have hD := hD0; have hS := hS0; have hl := hl0; have hw := hw0
  obtain ⟨H, hH⟩ : ∃ H : Heap, H = s.heap := ⟨_, rfl⟩
  obtain ⟨locs, hlocs⟩ : ∃ L : List Loc, L = [] := ⟨_, rfl⟩
  rw [← hH] at hP
  have hS : va_S Ad s.heap H locs := by rw [hH, hlocs]; exact hS
  refine mw_HL hH hlocs ?_
  refine lv_iconst (v := hz_i (-1)) hx hb dX12_rowFor_0 (by decide +kernel) ?_
  refine lv_istore (lv' := [(4, .int (hz_i (-1))), (0, .ref om), (1, .int (hz_i y1)), (2, .int (hz_i y2)), (3, .int (hz_i y3))]) hx hb dX12_rowFor_1 hl (by decide) rfl (fun ls hl => ?_)
  refine lv_iconst (v := hz_i 0) hx hb dX12_rowFor_3 (by decide +kernel) ?_
  refine lv_istore (lv' := [(5, .int (hz_i 0)), (4, .int (hz_i (-1))), (0, .ref om), (1, .int (hz_i y1)), (2, .int (hz_i y2)), (3, .int (hz_i y3))]) hx hb dX12_rowFor_4 hl (by decide) rfl (fun ls hl => ?_)
  exact L6 A (-1) 0 hw H locs ls hP hD hS (lv_sub hl [2, 3, 4, 5, 1, 0] rfl)

noncomputable def wp_exchange_87 (z : Nat → Int) (A : Nat → Nat → Int) (y1 : Int) (y2 : Int) (y3 : Int) (y4 : Int) (x5 : Int) (P16 : (Nat → Nat → Int) → Int → Prop) (Q : (Nat → Nat → Int) → Prop) : Prop := ∀ x5_1 : Int, x5_1 = x5 + 1 → P16 A x5_1
noncomputable def wp_exchange_70 (z : Nat → Int) (A : Nat → Nat → Int) (y1 : Int) (y2 : Int) (y3 : Int) (y4 : Int) (x5 : Int) (x6 : Int) (P16 : (Nat → Nat → Int) → Int → Prop) (P31 : (Nat → Nat → Int) → Int → Prop) (Q : (Nat → Nat → Int) → Prop) : Prop := ∀ x6_2 : Int, x6_2 = x6 + 1 → P31 A x6_2
noncomputable def wp_exchange_31 (z : Nat → Int) (A : Nat → Nat → Int) (y1 : Int) (y2 : Int) (y3 : Int) (y4 : Int) (x5 : Int) (x6 : Int) (P16 : (Nat → Nat → Int) → Int → Prop) (Q : (Nat → Nat → Int) → Prop) : Prop := ∀ P31 : (Nat → Nat → Int) → Int → Prop, (∀ (A : Nat → Nat → Int) (x6 : Int), hz_rI x6 ∧ hz_rI y4 ∧ ((y4 < x6 → wp_cell z A x5 y2 (fun r_4 => wp_turnSign z A r_4 (fun A_6 => wp_exchange_87 z A_6 y1 y2 y3 y4 x5 P16 Q))) ∧ (¬ (y4 < x6) → hz_rI x6 ∧ hz_rI y2 ∧ ((x6 = y2 → wp_exchange_70 z A y1 y2 y3 y4 x5 x6 P16 P31 Q) ∧ (¬ (x6 = y2) → wp_cell z A x5 x6 (fun r_8 => wp_cell z A x5 y2 (fun r_9 => wp_cell z A y1 x6 (fun r_10 => wp_exchangeCell z A r_8 r_9 r_10 (fun A_12 => wp_exchange_70 z A_12 y1 y2 y3 y4 x5 x6 P16 P31 Q)))))))) → P31 A x6) → P31 A x6
noncomputable def wp_exchange_16 (z : Nat → Int) (A : Nat → Nat → Int) (y1 : Int) (y2 : Int) (y3 : Int) (y4 : Int) (x5 : Int) (Q : (Nat → Nat → Int) → Prop) : Prop := ∀ P16 : (Nat → Nat → Int) → Int → Prop, (∀ (A : Nat → Nat → Int) (x5 : Int), hz_rI x5 ∧ hz_rI y3 ∧ ((y3 < x5 → wp_cell z A y1 y2 (fun r_14 => wp_bigCopy z A r_14 4225 (fun A_16 => wp_bigCopy z A_16 4225 4226 (fun A_18 => (0 ≤ y1 ∧ y1 < 65) ∧ ∀ x5_19 : Int, x5_19 = A_18 54 (y1.toNat) → (0 ≤ y2 ∧ y2 < 65) ∧ (0 ≤ y1 ∧ y1 < 65) ∧ ∀ A_20 : Nat → Nat → Int, A_20 = hz_s A_18 54 y1 (A_18 55 (y2.toNat)) → (0 ≤ y2 ∧ y2 < 65) ∧ ∀ A_21 : Nat → Nat → Int, A_21 = hz_s A_20 55 y2 x5_19 → Q A_21)))) ∧ (¬ (y3 < x5) → hz_rI x5 ∧ hz_rI y1 ∧ ((x5 = y1 → wp_exchange_87 z A y1 y2 y3 y4 x5 P16 Q) ∧ (¬ (x5 = y1) → wp_exchange_31 z A y1 y2 y3 y4 x5 0 P16 Q)))) → P16 A x5) → P16 A x5
noncomputable def wp_exchange (z : Nat → Int) (A : Nat → Nat → Int) (y1 : Int) (y2 : Int) (y3 : Int) (y4 : Int) (Q : (Nat → Nat → Int) → Prop) : Prop := wp_cell z A y1 y2 (fun r_23 => wp_bigCopy z A 4226 r_23 (fun A_25 => wp_exchange_16 z A_25 y1 y2 y3 y4 0  Q))
set_option maxHeartbeats 4000000 in
set_option maxRecDepth 100000 in
theorem k_exchange (l : Launch) (D : va_G) (sz : Nat) (om : Nat) (R : Nat → Nat) (C : Nat → ClassId) (z : Nat → Int) (A : Nat → Nat → Int) (y1 : Int) (y2 : Int) (y3 : Int) (y4 : Int) (Q : (Nat → Nat → Int) → Prop) (hw : wp_exchange z A y1 y2 y3 y4 Q) : Met l yX12_exchange wsX12_exchange ({ frames := 6, cells := 0, slots := 0, locals := 152 } : Room) (va_Pc [.ref om, .int (hz_i y1), .int (hz_i y2), .int (hz_i y3), .int (hz_i y4)] (hm_P D (mw_w om R C z A) (mw_t C) sz)) (va_Qv (S := Int × (Nat → Int) × (Nat → Nat → Int)) (fun u => Q u.2.2) (fun u t => hm_B D (va_A (mw_w om R C z A) sz) (mw_w om R C z u.2.2) (mw_t C) t) (va_A (mw_w om R C z A) sz)) 0 0 (va_A (mw_w om R C z A) sz) := by
  refine Met.ofW (cc := cX12_exchange) (maxL := 7) (ret := none) (by decide) rfl ?_
  intro p e s m args below meth c s₁ B hml hv
  obtain ⟨rfl, hsz, hP, hK, hD0, hE⟩ := hv
  have hx := B.exec
  have hb := B.bytes
  have hr := B.returns
  have hts := atoms_spec (ws := wsX12_exchange) B.pre
  have hown : s.vm.findClass RX12 = some m.cls := findClass_of_methodNamed B.named
  have hlocks := B.notSynchronized
  have hin12 : ∀ w ∈ u_ws RX12 TX12 58, w ∈ wsX12_exchange := fun w h => List.mem_cons_of_mem _ (List.mem_append_right _ (h))
  subst hsz
  have hD := hD0.self (sz := s.heap.size)
  generalize hAe : va_A (mw_w om R C z A) s.heap.size = Ad at hD ⊢
  have hA : ∀ q : Nat, s.heap.size ≤ q → Ad q := fun q h => by rw [← hAe]; exact Or.inr h
  have hS : va_S Ad s.heap s.heap [] := va_S.rf
  have hl := lv_entry ([.ref om, .int (hz_i y1), .int (hz_i y2), .int (hz_i y3), .int (hz_i y4)]) (n := 7) (Nat.le_of_ble_eq_true rfl)
  rw [lg_entry_eq]
  generalize (lg_sl ([.ref om, .int (hz_i y1), .int (hz_i y2), .int (hz_i y3), .int (hz_i y4)]) ++ List.replicate (7 - (lg_sl ([.ref om, .int (hz_i y1), .int (hz_i y2), .int (hz_i y3), .int (hz_i y4)])).length) Slot.unset).toArray = ls at hl ⊢
  have hl : lv_has ls 7 [(0, .ref om), (1, .int (hz_i y1)), (2, .int (hz_i y2)), (3, .int (hz_i y3)), (4, .int (hz_i y4))] := hl
  refine mw_Q (fun QQ hQQ => ?_)
  have hP0 := hP; have hD0 := hD; have hS0 := hS; have hl0 := hl; have hw0 := hw
  clear hP hD hS hl hw
  have L16 : ∀ (A : Nat → Nat → Int) (x5 : Int), wp_exchange_16 z A y1 y2 y3 y4 x5  Q → ∀ (H : Heap) (locs : List Loc) (ls : Array Slot), va_P D vwCl (mw_w om R C z A) H → va_D Ad (mw_w om R C z A) → va_S Ad s.heap H locs → lv_has ls 7 [(0, .ref om), (1, .int (hz_i y1)), (2, .int (hz_i y2)), (3, .int (hz_i y3)), (4, .int (hz_i y4)), (5, .int (hz_i x5))] → W p l e (headSpec wsX12_exchange ({ frames := 6, cells := 0, slots := 0, locals := 152 } : Room)).room s m (List.toArray [.ref om, .int (hz_i y1), .int (hz_i y2), .int (hz_i y3), .int (hz_i y4)]) below meth c H locs 0 0 QQ (F0 m 16 ls []) := by
    intro A x5 hw
    obtain ⟨P16, hP16⟩ : ∃ P : (Nat → Nat → Int) → Int → Prop, ∀ (A : Nat → Nat → Int) (x5 : Int), P A x5 ↔ (∀ (H : Heap) (locs : List Loc) (ls : Array Slot), va_P D vwCl (mw_w om R C z A) H → va_D Ad (mw_w om R C z A) → va_S Ad s.heap H locs → lv_has ls 7 [(0, .ref om), (1, .int (hz_i y1)), (2, .int (hz_i y2)), (3, .int (hz_i y3)), (4, .int (hz_i y4)), (5, .int (hz_i x5))] → W p l e (headSpec wsX12_exchange ({ frames := 6, cells := 0, slots := 0, locals := 152 } : Room)).room s m (List.toArray [.ref om, .int (hz_i y1), .int (hz_i y2), .int (hz_i y3), .int (hz_i y4)]) below meth c H locs 0 0 QQ (F0 m 16 ls [])) := ⟨fun (A : Nat → Nat → Int) (x5 : Int) => ∀ (H : Heap) (locs : List Loc) (ls : Array Slot), va_P D vwCl (mw_w om R C z A) H → va_D Ad (mw_w om R C z A) → va_S Ad s.heap H locs → lv_has ls 7 [(0, .ref om), (1, .int (hz_i y1)), (2, .int (hz_i y2)), (3, .int (hz_i y3)), (4, .int (hz_i y4)), (5, .int (hz_i x5))] → W p l e (headSpec wsX12_exchange ({ frames := 6, cells := 0, slots := 0, locals := 152 } : Room)).room s m (List.toArray [.ref om, .int (hz_i y1), .int (hz_i y2), .int (hz_i y3), .int (hz_i y4)]) below meth c H locs 0 0 QQ (F0 m 16 ls []), fun _ _ => Iff.rfl⟩
    refine (hP16 A x5).mp (hw P16 ?_)
    intro A x5 hw
    refine (hP16 A x5).mpr ?_
    intro H locs ls hP hD hS hl
    have L87 : ∀ (A : Nat → Nat → Int) (x5 : Int), wp_exchange_87 z A y1 y2 y3 y4 x5 P16 Q → ∀ (H : Heap) (locs : List Loc) (ls : Array Slot), va_P D vwCl (mw_w om R C z A) H → va_D Ad (mw_w om R C z A) → va_S Ad s.heap H locs → lv_has ls 7 [(0, .ref om), (1, .int (hz_i y1)), (2, .int (hz_i y2)), (3, .int (hz_i y3)), (4, .int (hz_i y4)), (5, .int (hz_i x5))] → W p l e (headSpec wsX12_exchange ({ frames := 6, cells := 0, slots := 0, locals := 152 } : Room)).room s m (List.toArray [.ref om, .int (hz_i y1), .int (hz_i y2), .int (hz_i y3), .int (hz_i y4)]) below meth c H locs 0 0 QQ (F0 m 87 ls []) := by
      intro A x5 hw H locs ls hP hD hS hl
      obtain ⟨x5_1, hx5_1⟩ : ∃ y : Int, y = x5 + 1 := ⟨_, rfl⟩
      have hw := hw x5_1 hx5_1
      refine lv_iinc (v := hz_i x5_1) (lv' := [(5, .int (hz_i x5_1)), (0, .ref om), (1, .int (hz_i y1)), (2, .int (hz_i y2)), (3, .int (hz_i y3)), (4, .int (hz_i y4))]) hx hb dX12_exchange_87 hl (k := 5) rfl (by rw [hx5_1]; exact hz_i_add _ _) (by decide) rfl (fun ls hl => ?_)
      refine lv_goto (tgt := 16) hx hb dX12_exchange_90 (by decide) ?_
      exact (hP16 A x5_1).mp hw H locs ls hP hD hS (lv_sub hl [1, 2, 3, 4, 5, 0] rfl)
    have L31 : ∀ (A : Nat → Nat → Int) (x5 : Int) (x6 : Int), wp_exchange_31 z A y1 y2 y3 y4 x5 x6 P16 Q → ∀ (H : Heap) (locs : List Loc) (ls : Array Slot), va_P D vwCl (mw_w om R C z A) H → va_D Ad (mw_w om R C z A) → va_S Ad s.heap H locs → lv_has ls 7 [(0, .ref om), (1, .int (hz_i y1)), (2, .int (hz_i y2)), (3, .int (hz_i y3)), (4, .int (hz_i y4)), (5, .int (hz_i x5)), (6, .int (hz_i x6))] → W p l e (headSpec wsX12_exchange ({ frames := 6, cells := 0, slots := 0, locals := 152 } : Room)).room s m (List.toArray [.ref om, .int (hz_i y1), .int (hz_i y2), .int (hz_i y3), .int (hz_i y4)]) below meth c H locs 0 0 QQ (F0 m 31 ls []) := by
      intro A x5 x6 hw
      obtain ⟨P31, hP31⟩ : ∃ P : (Nat → Nat → Int) → Int → Prop, ∀ (A : Nat → Nat → Int) (x6 : Int), P A x6 ↔ (∀ (H : Heap) (locs : List Loc) (ls : Array Slot), va_P D vwCl (mw_w om R C z A) H → va_D Ad (mw_w om R C z A) → va_S Ad s.heap H locs → lv_has ls 7 [(0, .ref om), (1, .int (hz_i y1)), (2, .int (hz_i y2)), (3, .int (hz_i y3)), (4, .int (hz_i y4)), (5, .int (hz_i x5)), (6, .int (hz_i x6))] → W p l e (headSpec wsX12_exchange ({ frames := 6, cells := 0, slots := 0, locals := 152 } : Room)).room s m (List.toArray [.ref om, .int (hz_i y1), .int (hz_i y2), .int (hz_i y3), .int (hz_i y4)]) below meth c H locs 0 0 QQ (F0 m 31 ls [])) := ⟨fun (A : Nat → Nat → Int) (x6 : Int) => ∀ (H : Heap) (locs : List Loc) (ls : Array Slot), va_P D vwCl (mw_w om R C z A) H → va_D Ad (mw_w om R C z A) → va_S Ad s.heap H locs → lv_has ls 7 [(0, .ref om), (1, .int (hz_i y1)), (2, .int (hz_i y2)), (3, .int (hz_i y3)), (4, .int (hz_i y4)), (5, .int (hz_i x5)), (6, .int (hz_i x6))] → W p l e (headSpec wsX12_exchange ({ frames := 6, cells := 0, slots := 0, locals := 152 } : Room)).room s m (List.toArray [.ref om, .int (hz_i y1), .int (hz_i y2), .int (hz_i y3), .int (hz_i y4)]) below meth c H locs 0 0 QQ (F0 m 31 ls []), fun _ _ => Iff.rfl⟩
      refine (hP31 A x6).mp (hw P31 ?_)
      intro A x6 hw
      refine (hP31 A x6).mpr ?_
      intro H locs ls hP hD hS hl
      have L70 : ∀ (A : Nat → Nat → Int) (x6 : Int), wp_exchange_70 z A y1 y2 y3 y4 x5 x6 P16 P31 Q → ∀ (H : Heap) (locs : List Loc) (ls : Array Slot), va_P D vwCl (mw_w om R C z A) H → va_D Ad (mw_w om R C z A) → va_S Ad s.heap H locs → lv_has ls 7 [(0, .ref om), (1, .int (hz_i y1)), (2, .int (hz_i y2)), (3, .int (hz_i y3)), (4, .int (hz_i y4)), (5, .int (hz_i x5)), (6, .int (hz_i x6))] → W p l e (headSpec wsX12_exchange ({ frames := 6, cells := 0, slots := 0, locals := 152 } : Room)).room s m (List.toArray [.ref om, .int (hz_i y1), .int (hz_i y2), .int (hz_i y3), .int (hz_i y4)]) below meth c H locs 0 0 QQ (F0 m 70 ls []) := by
        intro A x6 hw H locs ls hP hD hS hl
        obtain ⟨x6_2, hx6_2⟩ : ∃ y : Int, y = x6 + 1 := ⟨_, rfl⟩
        have hw := hw x6_2 hx6_2
        refine lv_iinc (v := hz_i x6_2) (lv' := [(6, .int (hz_i x6_2)), (0, .ref om), (1, .int (hz_i y1)), (2, .int (hz_i y2)), (3, .int (hz_i y3)), (4, .int (hz_i y4)), (5, .int (hz_i x5))]) hx hb dX12_exchange_70 hl (k := 6) rfl (by rw [hx6_2]; exact hz_i_add _ _) (by decide) rfl (fun ls hl => ?_)
        refine lv_goto (tgt := 31) hx hb dX12_exchange_73 (by decide) ?_
        exact (hP31 A x6_2).mp hw H locs ls hP hD hS (lv_sub hl [1, 2, 3, 4, 5, 6, 0] rfl)
      refine lv_iload hx hb dX12_exchange_31 (lv_at hl 6 rfl) ?_
      refine lv_iload hx hb dX12_exchange_33 (lv_at hl 4 rfl) ?_
      obtain ⟨h9a, hw⟩ := hw
      obtain ⟨h9b, hw⟩ := hw
      refine hz_icmp_gt (tgt := 76) hx hb dX12_exchange_35 (by decide) h9a h9b (fun c_3 => ?_) (fun c_3 => ?_)
      · have hw := hw.1 c_3
        refine lv_aload_n hx hb dX12_exchange_76 rfl (lv_at hl 0 rfl) ?_
        refine lv_aload_n hx hb dX12_exchange_77 rfl (lv_at hl 0 rfl) ?_
        refine lv_iload hx hb dX12_exchange_78 (lv_at hl 5 rfl) ?_
        refine lv_iload_n hx hb dX12_exchange_80 rfl (lv_at hl 2 rfl) ?_
        have hFc := mw_free hD hS hA
        refine va_calli (va_runV (As := [.int (hz_i x5), .int (hz_i y2)]) (rest := [.ref om]) ⟨hx, hb, hml, hown, hts⟩ (k_cell l D _ om R C z A x5 y2 _ hw) (cwV 2 hts gX12_exchange_X12_cell rfl rfl rfl (by decide +kernel) ⟨Nat.le_of_ble_eq_true rfl, Nat.le_of_ble_eq_true rfl⟩) ⟨hm_blind, va_recv hK hP (ci := 12) (q0 := 0) rfl rfl, hm_pre hP hK hD hE⟩ rfl rfl hl.1 rfl (lv_room (Nat.le_of_ble_eq_true rfl)) dX12_exchange_81 ⟨Nat.le_of_ble_eq_true rfl, Nat.le_of_ble_eq_true rfl⟩) hS (fun q _ h => hFc q h) hFc (fun rv u t H1 locs ht hvm hw hB hz1 hk1 hS => ?_)
        obtain ⟨r_4, _, _⟩ := u
        obtain ⟨hP, hK1, hD1⟩ := hB
        rw [ht] at hP
        obtain ⟨hrv, hw⟩ := hw
        subst hrv
        have hD := hD1.weaken (fun k q _ h => hFc q.1 h)
        have hP : va_P D vwCl (mw_w om R C z A) H1 := hP
        have hD : va_D Ad (mw_w om R C z A) := hD
        generalize H1 = H at hP hS ⊢
        refine W.eq (g2 := F0 m 84 ls [.int (hz_i r_4), .ref om]) rfl ?_
        have hFc := mw_free hD hS hA
        refine va_callv (va_runV (As := [.int (hz_i r_4)]) (rest := []) ⟨hx, hb, hml, hown, hts⟩ (k_turnSign l D _ om R C z A r_4 _ hw) (cwV 1 hts gX12_exchange_X12_turnSign rfl rfl rfl (by decide +kernel) ⟨Nat.le_of_ble_eq_true rfl, Nat.le_of_ble_eq_true rfl⟩) ⟨hm_blind, va_recv hK hP (ci := 12) (q0 := 0) rfl rfl, hm_pre hP hK hD hE⟩ rfl rfl hl.1 rfl (lv_room (Nat.le_of_ble_eq_true rfl)) dX12_exchange_84 ⟨Nat.le_of_ble_eq_true rfl, Nat.le_of_ble_eq_true rfl⟩) hS (fun q _ h => hFc q h) hFc (fun u t H1 locs ht hvm hw hB hz1 hk1 hS => ?_)
        obtain ⟨r_5, _, A_6⟩ := u
        obtain ⟨hP, hK1, hD1⟩ := hB
        rw [ht] at hP
        have hD := hD1.weaken (fun k q _ h => hFc q.1 h)
        have hP : va_P D vwCl (mw_w om R C z A_6) H1 := hP
        have hD : va_D Ad (mw_w om R C z A_6) := hD
        generalize H1 = H at hP hS ⊢
        refine W.eq (g2 := F0 m 87 ls []) rfl ?_
        exact L87 A_6 x5 hw H locs ls hP hD hS (lv_sub hl [0, 1, 2, 3, 4, 5] rfl)
      · have hw := hw.2 c_3
        refine lv_iload hx hb dX12_exchange_38 (lv_at hl 6 rfl) ?_
        refine lv_iload_n hx hb dX12_exchange_40 rfl (lv_at hl 2 rfl) ?_
        obtain ⟨h9a, hw⟩ := hw
        obtain ⟨h9b, hw⟩ := hw
        refine hz_icmp_eq (tgt := 70) hx hb dX12_exchange_41 (by decide) h9a h9b (fun c_7 => ?_) (fun c_7 => ?_)
        · have hw := hw.1 c_7
          exact L70 A x6 hw H locs ls hP hD hS (lv_sub hl [0, 1, 2, 3, 4, 5, 6] rfl)
        · have hw := hw.2 c_7
          refine lv_aload_n hx hb dX12_exchange_44 rfl (lv_at hl 0 rfl) ?_
          refine lv_aload_n hx hb dX12_exchange_45 rfl (lv_at hl 0 rfl) ?_
          refine lv_iload hx hb dX12_exchange_46 (lv_at hl 5 rfl) ?_
          refine lv_iload hx hb dX12_exchange_48 (lv_at hl 6 rfl) ?_
          have hFc := mw_free hD hS hA
          refine va_calli (va_runV (As := [.int (hz_i x5), .int (hz_i x6)]) (rest := [.ref om]) ⟨hx, hb, hml, hown, hts⟩ (k_cell l D _ om R C z A x5 x6 _ hw) (cwV 2 hts gX12_exchange_X12_cell rfl rfl rfl (by decide +kernel) ⟨Nat.le_of_ble_eq_true rfl, Nat.le_of_ble_eq_true rfl⟩) ⟨hm_blind, va_recv hK hP (ci := 12) (q0 := 0) rfl rfl, hm_pre hP hK hD hE⟩ rfl rfl hl.1 rfl (lv_room (Nat.le_of_ble_eq_true rfl)) dX12_exchange_50 ⟨Nat.le_of_ble_eq_true rfl, Nat.le_of_ble_eq_true rfl⟩) hS (fun q _ h => hFc q h) hFc (fun rv u t H1 locs ht hvm hw hB hz1 hk1 hS => ?_)
          obtain ⟨r_8, _, _⟩ := u
          obtain ⟨hP, hK1, hD1⟩ := hB
          rw [ht] at hP
          obtain ⟨hrv, hw⟩ := hw
          subst hrv
          have hD := hD1.weaken (fun k q _ h => hFc q.1 h)
          have hP : va_P D vwCl (mw_w om R C z A) H1 := hP
          have hD : va_D Ad (mw_w om R C z A) := hD
          generalize H1 = H at hP hS ⊢
          refine W.eq (g2 := F0 m 53 ls [.int (hz_i r_8), .ref om]) rfl ?_
          refine lv_aload_n hx hb dX12_exchange_53 rfl (lv_at hl 0 rfl) ?_
          refine lv_iload hx hb dX12_exchange_54 (lv_at hl 5 rfl) ?_
          refine lv_iload_n hx hb dX12_exchange_56 rfl (lv_at hl 2 rfl) ?_
          have hFc := mw_free hD hS hA
          refine va_calli (va_runV (As := [.int (hz_i x5), .int (hz_i y2)]) (rest := [.int (hz_i r_8), .ref om]) ⟨hx, hb, hml, hown, hts⟩ (k_cell l D _ om R C z A x5 y2 _ hw) (cwV 2 hts gX12_exchange_X12_cell rfl rfl rfl (by decide +kernel) ⟨Nat.le_of_ble_eq_true rfl, Nat.le_of_ble_eq_true rfl⟩) ⟨hm_blind, va_recv hK hP (ci := 12) (q0 := 0) rfl rfl, hm_pre hP hK hD hE⟩ rfl rfl hl.1 rfl (lv_room (Nat.le_of_ble_eq_true rfl)) dX12_exchange_57 ⟨Nat.le_of_ble_eq_true rfl, Nat.le_of_ble_eq_true rfl⟩) hS (fun q _ h => hFc q h) hFc (fun rv u t H1 locs ht hvm hw hB hz1 hk1 hS => ?_)
          obtain ⟨r_9, _, _⟩ := u
          obtain ⟨hP, hK1, hD1⟩ := hB
          rw [ht] at hP
          obtain ⟨hrv, hw⟩ := hw
          subst hrv
          have hD := hD1.weaken (fun k q _ h => hFc q.1 h)
          have hP : va_P D vwCl (mw_w om R C z A) H1 := hP
          have hD : va_D Ad (mw_w om R C z A) := hD
          generalize H1 = H at hP hS ⊢
          refine W.eq (g2 := F0 m 60 ls [.int (hz_i r_9), .int (hz_i r_8), .ref om]) rfl ?_
          refine lv_aload_n hx hb dX12_exchange_60 rfl (lv_at hl 0 rfl) ?_
          refine lv_iload_n hx hb dX12_exchange_61 rfl (lv_at hl 1 rfl) ?_
          refine lv_iload hx hb dX12_exchange_62 (lv_at hl 6 rfl) ?_
          have hFc := mw_free hD hS hA
          refine va_calli (va_runV (As := [.int (hz_i y1), .int (hz_i x6)]) (rest := [.int (hz_i r_9), .int (hz_i r_8), .ref om]) ⟨hx, hb, hml, hown, hts⟩ (k_cell l D _ om R C z A y1 x6 _ hw) (cwV 2 hts gX12_exchange_X12_cell rfl rfl rfl (by decide +kernel) ⟨Nat.le_of_ble_eq_true rfl, Nat.le_of_ble_eq_true rfl⟩) ⟨hm_blind, va_recv hK hP (ci := 12) (q0 := 0) rfl rfl, hm_pre hP hK hD hE⟩ rfl rfl hl.1 rfl (lv_room (Nat.le_of_ble_eq_true rfl)) dX12_exchange_64 ⟨Nat.le_of_ble_eq_true rfl, Nat.le_of_ble_eq_true rfl⟩) hS (fun q _ h => hFc q h) hFc (fun rv u t H1 locs ht hvm hw hB hz1 hk1 hS => ?_)
          obtain ⟨r_10, _, _⟩ := u
          obtain ⟨hP, hK1, hD1⟩ := hB
          rw [ht] at hP
          obtain ⟨hrv, hw⟩ := hw
          subst hrv
          have hD := hD1.weaken (fun k q _ h => hFc q.1 h)
          have hP : va_P D vwCl (mw_w om R C z A) H1 := hP
          have hD : va_D Ad (mw_w om R C z A) := hD
          generalize H1 = H at hP hS ⊢
          refine W.eq (g2 := F0 m 67 ls [.int (hz_i r_10), .int (hz_i r_9), .int (hz_i r_8), .ref om]) rfl ?_
          have hFc := mw_free hD hS hA
          refine va_callv (va_runV (As := [.int (hz_i r_8), .int (hz_i r_9), .int (hz_i r_10)]) (rest := []) ⟨hx, hb, hml, hown, hts⟩ (k_exchangeCell l D _ om R C z A r_8 r_9 r_10 _ hw) (cwV 3 hts gX12_exchange_X12_exchangeCell rfl rfl rfl (by decide +kernel) ⟨Nat.le_of_ble_eq_true rfl, Nat.le_of_ble_eq_true rfl⟩) ⟨hm_blind, va_recv hK hP (ci := 12) (q0 := 0) rfl rfl, hm_pre hP hK hD hE⟩ rfl rfl hl.1 rfl (lv_room (Nat.le_of_ble_eq_true rfl)) dX12_exchange_67 ⟨Nat.le_of_ble_eq_true rfl, Nat.le_of_ble_eq_true rfl⟩) hS (fun q _ h => hFc q h) hFc (fun u t H1 locs ht hvm hw hB hz1 hk1 hS => ?_)
          obtain ⟨r_11, _, A_12⟩ := u
          obtain ⟨hP, hK1, hD1⟩ := hB
          rw [ht] at hP
          have hD := hD1.weaken (fun k q _ h => hFc q.1 h)
          have hP : va_P D vwCl (mw_w om R C z A_12) H1 := hP
          have hD : va_D Ad (mw_w om R C z A_12) := hD
          generalize H1 = H at hP hS ⊢
          refine W.eq (g2 := F0 m 70 ls []) rfl ?_
          exact L70 A_12 x6 hw H locs ls hP hD hS (lv_sub hl [0, 1, 2, 3, 4, 5, 6] rfl)
    refine lv_iload hx hb dX12_exchange_16 (lv_at hl 5 rfl) ?_
    refine lv_iload_n hx hb dX12_exchange_18 rfl (lv_at hl 3 rfl) ?_
    obtain ⟨h9a, hw⟩ := hw
    obtain ⟨h9b, hw⟩ := hw
    refine hz_icmp_gt (tgt := 93) hx hb dX12_exchange_19 (by decide) h9a h9b (fun c_13 => ?_) (fun c_13 => ?_)
    · have hw := hw.1 c_13
      refine lv_aload_n hx hb dX12_exchange_93 rfl (lv_at hl 0 rfl) ?_
      refine lv_aload_n hx hb dX12_exchange_94 rfl (lv_at hl 0 rfl) ?_
      refine lv_iload_n hx hb dX12_exchange_95 rfl (lv_at hl 1 rfl) ?_
      refine lv_iload_n hx hb dX12_exchange_96 rfl (lv_at hl 2 rfl) ?_
      have hFc := mw_free hD hS hA
      refine va_calli (va_runV (As := [.int (hz_i y1), .int (hz_i y2)]) (rest := [.ref om]) ⟨hx, hb, hml, hown, hts⟩ (k_cell l D _ om R C z A y1 y2 _ hw) (cwV 2 hts gX12_exchange_X12_cell rfl rfl rfl (by decide +kernel) ⟨Nat.le_of_ble_eq_true rfl, Nat.le_of_ble_eq_true rfl⟩) ⟨hm_blind, va_recv hK hP (ci := 12) (q0 := 0) rfl rfl, hm_pre hP hK hD hE⟩ rfl rfl hl.1 rfl (lv_room (Nat.le_of_ble_eq_true rfl)) dX12_exchange_97 ⟨Nat.le_of_ble_eq_true rfl, Nat.le_of_ble_eq_true rfl⟩) hS (fun q _ h => hFc q h) hFc (fun rv u t H1 locs ht hvm hw hB hz1 hk1 hS => ?_)
      obtain ⟨r_14, _, _⟩ := u
      obtain ⟨hP, hK1, hD1⟩ := hB
      rw [ht] at hP
      obtain ⟨hrv, hw⟩ := hw
      subst hrv
      have hD := hD1.weaken (fun k q _ h => hFc q.1 h)
      have hP : va_P D vwCl (mw_w om R C z A) H1 := hP
      have hD : va_D Ad (mw_w om R C z A) := hD
      generalize H1 = H at hP hS ⊢
      refine W.eq (g2 := F0 m 100 ls [.int (hz_i r_14), .ref om]) rfl ?_
      refine lv_sipush (v := hz_i 4225) hx hb dX12_exchange_100 (by decide +kernel) ?_
      have hFc := mw_free hD hS hA
      refine va_callv (va_runV (As := [.int (hz_i r_14), .int (hz_i 4225)]) (rest := []) ⟨hx, hb, hml, hown, hts⟩ (k_bigCopy l D _ om R C z A r_14 4225 _ hw) (cwV 2 hts gX12_exchange_X12_bigCopy rfl rfl rfl (by decide +kernel) ⟨Nat.le_of_ble_eq_true rfl, Nat.le_of_ble_eq_true rfl⟩) ⟨hm_blind, va_recv hK hP (ci := 12) (q0 := 0) rfl rfl, hm_pre hP hK hD hE⟩ rfl rfl hl.1 rfl (lv_room (Nat.le_of_ble_eq_true rfl)) dX12_exchange_103 ⟨Nat.le_of_ble_eq_true rfl, Nat.le_of_ble_eq_true rfl⟩) hS (fun q _ h => hFc q h) hFc (fun u t H1 locs ht hvm hw hB hz1 hk1 hS => ?_)
      obtain ⟨r_15, _, A_16⟩ := u
      obtain ⟨hP, hK1, hD1⟩ := hB
      rw [ht] at hP
      have hD := hD1.weaken (fun k q _ h => hFc q.1 h)
      have hP : va_P D vwCl (mw_w om R C z A_16) H1 := hP
      have hD : va_D Ad (mw_w om R C z A_16) := hD
      generalize H1 = H at hP hS ⊢
      refine W.eq (g2 := F0 m 106 ls []) rfl ?_
      refine lv_aload_n hx hb dX12_exchange_106 rfl (lv_at hl 0 rfl) ?_
      refine lv_sipush (v := hz_i 4225) hx hb dX12_exchange_107 (by decide +kernel) ?_
      refine lv_sipush (v := hz_i 4226) hx hb dX12_exchange_110 (by decide +kernel) ?_
      have hFc := mw_free hD hS hA
      refine va_callv (va_runV (As := [.int (hz_i 4225), .int (hz_i 4226)]) (rest := []) ⟨hx, hb, hml, hown, hts⟩ (k_bigCopy l D _ om R C z A_16 4225 4226 _ hw) (cwV 2 hts gX12_exchange_X12_bigCopy rfl rfl rfl (by decide +kernel) ⟨Nat.le_of_ble_eq_true rfl, Nat.le_of_ble_eq_true rfl⟩) ⟨hm_blind, va_recv hK hP (ci := 12) (q0 := 0) rfl rfl, hm_pre hP hK hD hE⟩ rfl rfl hl.1 rfl (lv_room (Nat.le_of_ble_eq_true rfl)) dX12_exchange_113 ⟨Nat.le_of_ble_eq_true rfl, Nat.le_of_ble_eq_true rfl⟩) hS (fun q _ h => hFc q h) hFc (fun u t H1 locs ht hvm hw hB hz1 hk1 hS => ?_)
      obtain ⟨r_17, _, A_18⟩ := u
      obtain ⟨hP, hK1, hD1⟩ := hB
      rw [ht] at hP
      have hD := hD1.weaken (fun k q _ h => hFc q.1 h)
      have hP : va_P D vwCl (mw_w om R C z A_18) H1 := hP
      have hD : va_D Ad (mw_w om R C z A_18) := hD
      generalize H1 = H at hP hS ⊢
      refine W.eq (g2 := F0 m 116 ls []) rfl ?_
      refine lv_aload_n hx hb dX12_exchange_116 rfl (lv_at hl 0 rfl) ?_
      refine mw_get (v := .ref (R 54)) hx hb hts hin12 hown hK hP 54 (by decide) (hts (.fieldLink RX12 214 "HiddenMovesModel" "rowOf" "[I") (List.mem_cons_of_mem _ (List.mem_append_left _ (List.mem_append_left _ (List.mem_of_getElem? (i := 0) rfl))))) (fun _ h9 => h9) rfl dX12_exchange_117 ?_
      refine lv_iload_n hx hb dX12_exchange_120 rfl (lv_at hl 1 rfl) ?_
      obtain ⟨h9i, hw⟩ := hw
      refine mw_ild (k := 54) (n := 65) (i := y1) hx hb hK hP 41 40 rfl rfl h9i (by decide) dX12_exchange_121 ?_
      refine hz_topi (fun x5_19 hx5_19 => ?_)
      have hw := hw x5_19 hx5_19
      refine lv_istore (lv' := [(5, .int (hz_i x5_19)), (0, .ref om), (1, .int (hz_i y1)), (2, .int (hz_i y2)), (3, .int (hz_i y3)), (4, .int (hz_i y4))]) hx hb dX12_exchange_122 hl (by decide) rfl (fun ls hl => ?_)
      refine lv_aload_n hx hb dX12_exchange_124 rfl (lv_at hl 1 rfl) ?_
      refine mw_get (v := .ref (R 54)) hx hb hts hin12 hown hK hP 54 (by decide) (hts (.fieldLink RX12 214 "HiddenMovesModel" "rowOf" "[I") (List.mem_cons_of_mem _ (List.mem_append_left _ (List.mem_append_left _ (List.mem_of_getElem? (i := 0) rfl))))) (fun _ h9 => h9) rfl dX12_exchange_125 ?_
      refine lv_iload_n hx hb dX12_exchange_128 rfl (lv_at hl 2 rfl) ?_
      refine lv_aload_n hx hb dX12_exchange_129 rfl (lv_at hl 1 rfl) ?_
      refine mw_get (v := .ref (R 55)) hx hb hts hin12 hown hK hP 55 (by decide) (hts (.fieldLink RX12 217 "HiddenMovesModel" "columnOf" "[I") (List.mem_cons_of_mem _ (List.mem_append_left _ (List.mem_append_left _ (List.mem_of_getElem? (i := 1) rfl))))) (fun _ h9 => h9) rfl dX12_exchange_130 ?_
      refine lv_iload_n hx hb dX12_exchange_133 rfl (lv_at hl 3 rfl) ?_
      obtain ⟨h9i, hw⟩ := hw
      refine mw_ild (k := 55) (n := 65) (i := y2) hx hb hK hP 42 41 rfl rfl h9i (by decide) dX12_exchange_134 ?_
      obtain ⟨h9i, hw⟩ := hw
      refine mw_ist (k := 54) (n := 65) (i := y1) (v := A_18 55 (y2.toNat)) hx hb hK hP hD hS 41 40 rfl rfl (mw_a54 om R C z A_18) h9i (by decide) dX12_exchange_135 (fun H locs hP hD hS => ?_)
      obtain ⟨A_20, hA_20⟩ : ∃ y : Nat → Nat → Int, y = hz_s A_18 54 y1 (A_18 55 (y2.toNat)) := ⟨_, rfl⟩
      rw [← hA_20] at hP hD
      have hw := hw A_20 hA_20
      refine lv_aload_n hx hb dX12_exchange_136 rfl (lv_at hl 1 rfl) ?_
      refine mw_get (v := .ref (R 55)) hx hb hts hin12 hown hK hP 55 (by decide) (hts (.fieldLink RX12 217 "HiddenMovesModel" "columnOf" "[I") (List.mem_cons_of_mem _ (List.mem_append_left _ (List.mem_append_left _ (List.mem_of_getElem? (i := 1) rfl))))) (fun _ h9 => h9) rfl dX12_exchange_137 ?_
      refine lv_iload_n hx hb dX12_exchange_140 rfl (lv_at hl 3 rfl) ?_
      refine lv_iload hx hb dX12_exchange_141 (lv_at hl 0 rfl) ?_
      obtain ⟨h9i, hw⟩ := hw
      refine mw_ist (k := 55) (n := 65) (i := y2) (v := x5_19) hx hb hK hP hD hS 42 41 rfl rfl (mw_a55 om R C z A_20) h9i (by decide) dX12_exchange_143 (fun H locs hP hD hS => ?_)
      obtain ⟨A_21, hA_21⟩ : ∃ y : Nat → Nat → Int, y = hz_s A_20 55 y2 x5_19 := ⟨_, rfl⟩
      rw [← hA_21] at hP hD
      have hw := hw A_21 hA_21
      subst hQQ
      subst hAe
      exact W.vret hx hb hr (fun t ht hW => ⟨⟨(0, z, A_21), rfl, hw, by rw [ht]; exact hP, va_K.moved hW.alike hK, hD⟩, hS.F ht⟩) hS.2.2 dX12_exchange_144
    · have hw := hw.2 c_13
      refine lv_iload hx hb dX12_exchange_22 (lv_at hl 5 rfl) ?_
      refine lv_iload_n hx hb dX12_exchange_24 rfl (lv_at hl 1 rfl) ?_
      obtain ⟨h9a, hw⟩ := hw
      obtain ⟨h9b, hw⟩ := hw
      refine hz_icmp_eq (tgt := 87) hx hb dX12_exchange_25 (by decide) h9a h9b (fun c_22 => ?_) (fun c_22 => ?_)
      · have hw := hw.1 c_22
        exact L87 A x5 hw H locs ls hP hD hS (lv_sub hl [0, 1, 2, 3, 4, 5] rfl)
      · have hw := hw.2 c_22
        refine lv_iconst (v := hz_i 0) hx hb dX12_exchange_28 (by decide +kernel) ?_
        refine lv_istore (lv' := [(6, .int (hz_i 0)), (0, .ref om), (1, .int (hz_i y1)), (2, .int (hz_i y2)), (3, .int (hz_i y3)), (4, .int (hz_i y4)), (5, .int (hz_i x5))]) hx hb dX12_exchange_29 hl (by decide) rfl (fun ls hl => ?_)
        exact L31 A x5 0 hw H locs ls hP hD hS (lv_sub hl [1, 2, 3, 4, 5, 6, 0] rfl)
  have hP := hP0; have hD := hD0; have hS := hS0; have hl := hl0; have hw := hw0
  obtain ⟨H, hH⟩ : ∃ H : Heap, H = s.heap := ⟨_, rfl⟩
  obtain ⟨locs, hlocs⟩ : ∃ L : List Loc, L = [] := ⟨_, rfl⟩
  rw [← hH] at hP
  have hS : va_S Ad s.heap H locs := by rw [hH, hlocs]; exact hS
  refine mw_HL hH hlocs ?_
  refine lv_aload_n hx hb dX12_exchange_0 rfl (lv_at hl 0 rfl) ?_
  refine lv_sipush (v := hz_i 4226) hx hb dX12_exchange_1 (by decide +kernel) ?_
  refine lv_aload_n hx hb dX12_exchange_4 rfl (lv_at hl 0 rfl) ?_
  refine lv_iload_n hx hb dX12_exchange_5 rfl (lv_at hl 1 rfl) ?_
  refine lv_iload_n hx hb dX12_exchange_6 rfl (lv_at hl 2 rfl) ?_
  have hFc := mw_free hD hS hA
  refine va_calli (va_runV (As := [.int (hz_i y1), .int (hz_i y2)]) (rest := [.int (hz_i 4226), .ref om]) ⟨hx, hb, hml, hown, hts⟩ (k_cell l D _ om R C z A y1 y2 _ hw) (cwV 2 hts gX12_exchange_X12_cell rfl rfl rfl (by decide +kernel) ⟨Nat.le_of_ble_eq_true rfl, Nat.le_of_ble_eq_true rfl⟩) ⟨hm_blind, va_recv hK hP (ci := 12) (q0 := 0) rfl rfl, hm_pre hP hK hD hE⟩ rfl rfl hl.1 rfl (lv_room (Nat.le_of_ble_eq_true rfl)) dX12_exchange_7 ⟨Nat.le_of_ble_eq_true rfl, Nat.le_of_ble_eq_true rfl⟩) hS (fun q _ h => hFc q h) hFc (fun rv u t H1 locs ht hvm hw hB hz1 hk1 hS => ?_)
  obtain ⟨r_23, _, _⟩ := u
  obtain ⟨hP, hK1, hD1⟩ := hB
  rw [ht] at hP
  obtain ⟨hrv, hw⟩ := hw
  subst hrv
  have hD := hD1.weaken (fun k q _ h => hFc q.1 h)
  have hP : va_P D vwCl (mw_w om R C z A) H1 := hP
  have hD : va_D Ad (mw_w om R C z A) := hD
  generalize H1 = H at hP hS ⊢
  refine W.eq (g2 := F0 m 10 ls [.int (hz_i r_23), .int (hz_i 4226), .ref om]) rfl ?_
  have hFc := mw_free hD hS hA
  refine va_callv (va_runV (As := [.int (hz_i 4226), .int (hz_i r_23)]) (rest := []) ⟨hx, hb, hml, hown, hts⟩ (k_bigCopy l D _ om R C z A 4226 r_23 _ hw) (cwV 2 hts gX12_exchange_X12_bigCopy rfl rfl rfl (by decide +kernel) ⟨Nat.le_of_ble_eq_true rfl, Nat.le_of_ble_eq_true rfl⟩) ⟨hm_blind, va_recv hK hP (ci := 12) (q0 := 0) rfl rfl, hm_pre hP hK hD hE⟩ rfl rfl hl.1 rfl (lv_room (Nat.le_of_ble_eq_true rfl)) dX12_exchange_10 ⟨Nat.le_of_ble_eq_true rfl, Nat.le_of_ble_eq_true rfl⟩) hS (fun q _ h => hFc q h) hFc (fun u t H1 locs ht hvm hw hB hz1 hk1 hS => ?_)
  obtain ⟨r_24, _, A_25⟩ := u
  obtain ⟨hP, hK1, hD1⟩ := hB
  rw [ht] at hP
  have hD := hD1.weaken (fun k q _ h => hFc q.1 h)
  have hP : va_P D vwCl (mw_w om R C z A_25) H1 := hP
  have hD : va_D Ad (mw_w om R C z A_25) := hD
  generalize H1 = H at hP hS ⊢
  refine W.eq (g2 := F0 m 13 ls []) rfl ?_
  refine lv_iconst (v := hz_i 0) hx hb dX12_exchange_13 (by decide +kernel) ?_
  refine lv_istore (lv' := [(5, .int (hz_i 0)), (0, .ref om), (1, .int (hz_i y1)), (2, .int (hz_i y2)), (3, .int (hz_i y3)), (4, .int (hz_i y4))]) hx hb dX12_exchange_14 hl (by decide) rfl (fun ls hl => ?_)
  exact L16 A_25 0 hw H locs ls hP hD hS (lv_sub hl [1, 2, 3, 4, 5, 0] rfl)
