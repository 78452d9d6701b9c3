noncomputable def wp_from_27 (z : Nat → Int) (A : Nat → Nat → Int) (t0 : Int) (Q : Int → Prop) : Prop := Q t0
noncomputable def wp_from (z : Nat → Int) (A : Nat → Nat → Int) (y0 : Int) (Q : Int → Prop) : Prop := hz_rI y0 ∧ ((4243 ≤ y0 → wp_from_27 z A (551590 + (270 * (y0 - 4243)))  Q) ∧ (¬ (4243 ≤ y0) → wp_from_27 z A (130 * y0)  Q))
set_option maxHeartbeats 4000000 in
set_option maxRecDepth 100000 in
theorem k_from (l : Launch) (D : va_G) (sz : Nat) (om : Nat) (R : Nat → Nat) (C : Nat → ClassId) (z : Nat → Int) (A : Nat → Nat → Int) (y0 : Int) (Q : Int → Prop) (hw : wp_from z A y0 Q) : Met l yX12_from wsX12_from ({ frames := 0, cells := 0, slots := 0, locals := 0 } : Room) (va_Pc [.int (hz_i y0)] (hm_P D (mw_w om R C z A) (mw_t C) sz)) (va_Qi (S := Int × (Nat → Int) × (Nat → Nat → Int)) (fun r u => r = hz_i u.1 ∧ Q u.1) (fun u t => hm_B D (va_A (mw_w om R C z A) sz) (mw_w om R C z A) (mw_t C) t) (va_A (mw_w om R C z A) sz)) 0 0 (va_A (mw_w om R C z A) sz) := by
  refine Met.ofW (cc := cX12_from) (maxL := 1) (ret := (some .int)) (by decide) rfl ?_
  intro p e s m args below meth c s₁ B hml hv
  obtain ⟨rfl, hsz, hP, hK, hD0, hE⟩ := hv
  have hx := B.exec
  have hb := B.bytes
  have hr := B.returns
  have hts := atoms_spec (ws := wsX12_from) B.pre
  have hown : s.vm.findClass RX12 = some m.cls := findClass_of_methodNamed B.named
  have hlocks := B.notSynchronized
  subst hsz
  have hD := hD0.self (sz := s.heap.size)
  generalize hAe : va_A (mw_w om R C z A) s.heap.size = Ad at hD ⊢
  have hA : ∀ q : Nat, s.heap.size ≤ q → Ad q := fun q h => by rw [← hAe]; exact Or.inr h
  have hS : va_S Ad s.heap s.heap [] := va_S.rf
  have hl := lv_entry ([.int (hz_i y0)]) (n := 1) (Nat.le_of_ble_eq_true rfl)
  rw [lg_entry_eq]
  generalize (lg_sl ([.int (hz_i y0)]) ++ List.replicate (1 - (lg_sl ([.int (hz_i y0)])).length) Slot.unset).toArray = ls at hl ⊢
  have hl : lv_has ls 1 [(0, .int (hz_i y0))] := hl
  refine mw_Q (fun QQ hQQ => ?_)
  have hP0 := hP; have hD0 := hD; have hS0 := hS; have hl0 := hl; have hw0 := hw
  clear hP hD hS hl hw
  have L27 : ∀ (t0 : Int), wp_from_27 z A t0  Q → ∀ (H : Heap) (locs : List Loc) (ls : Array Slot), va_P D vwCl (mw_w om R C z A) H → va_D Ad (mw_w om R C z A) → va_S Ad s.heap H locs → lv_has ls 1 [] → W p l e (headSpec wsX12_from ({ frames := 0, cells := 0, slots := 0, locals := 0 } : Room)).room s m (List.toArray [.int (hz_i y0)]) below meth c H locs 0 0 QQ (F0 m 27 ls [.int (hz_i t0)]) := by
    intro t0 hw H locs ls hP hD hS hl
    subst hQQ
    subst hAe
    exact W.iret (v := hz_i t0) hx hb hr (fun t ht hW => ⟨⟨hz_i t0, (t0, z, A), rfl, ⟨rfl, hw⟩, by rw [ht]; exact hP, va_K.moved hW.alike hK, hD⟩, hS.F ht⟩) hS.2.2 dX12_from_27
  have hP := hP0; have hD := hD0; have hS := hS0; have hl := hl0; have hw := hw0
  obtain ⟨H, hH⟩ : ∃ H : Heap, H = s.heap := ⟨_, rfl⟩
  obtain ⟨locs, hlocs⟩ : ∃ L : List Loc, L = [] := ⟨_, rfl⟩
  rw [← hH] at hP
  have hS : va_S Ad s.heap H locs := by rw [hH, hlocs]; exact hS
  refine mw_HL hH hlocs ?_
  refine lv_iload_n hx hb dX12_from_0 rfl (lv_at hl 0 rfl) ?_
  refine lv_sipush (v := hz_i 4243) hx hb dX12_from_1 (by decide +kernel) ?_
  obtain ⟨h9a, hw⟩ := hw
  refine hz_icmp_ge (tgt := 15) hx hb dX12_from_4 (by decide) h9a ⟨by decide, by decide⟩ (fun c_1 => ?_) (fun c_1 => ?_)
  · have hw := hw.1 c_1
    refine lv_ldc hx hb hown (hts (.constant RX12 3 (551590)) (List.mem_cons_of_mem _ (List.mem_of_getElem? (i := 0) rfl))) dX12_from_15 ?_
    refine hz_asi (b := 551590) (by decide +kernel) ?_
    refine lv_sipush (v := hz_i 270) hx hb dX12_from_17 (by decide +kernel) ?_
    refine lv_iload_n hx hb dX12_from_20 rfl (lv_at hl 0 rfl) ?_
    refine lv_sipush (v := hz_i 4243) hx hb dX12_from_21 (by decide +kernel) ?_
    refine hz_isub hx hb dX12_from_24 ?_
    refine hz_imul hx hb dX12_from_25 ?_
    refine hz_iadd hx hb dX12_from_26 ?_
    exact L27 (551590 + (270 * (y0 - 4243))) hw H locs ls hP hD hS (lv_sub hl [] rfl)
  · have hw := hw.2 c_1
    refine lv_sipush (v := hz_i 130) hx hb dX12_from_7 (by decide +kernel) ?_
    refine lv_iload_n hx hb dX12_from_10 rfl (lv_at hl 0 rfl) ?_
    refine hz_imul hx hb dX12_from_11 ?_
    refine lv_goto (tgt := 27) hx hb dX12_from_12 (by decide) ?_
    exact L27 (130 * y0) hw H locs ls hP hD hS (lv_sub hl [] rfl)

noncomputable def wp_bigSet_34 (z : Nat → Int) (A : Nat → Nat → Int) (y1 : Int) (x4 : Int) (x5 : Int) (Q : (Nat → Nat → Int) → Prop) : Prop := ∀ P34 : (Nat → Nat → Int) → Int → Int → Prop, (∀ (A : Nat → Nat → Int) (x4 : Int) (x5 : Int), hz_rL x5 ∧ ((x5 = 0 → (0 ≤ y1 ∧ y1 < 4250) ∧ ∀ A_2 : Nat → Nat → Int, A_2 = hz_s A 1 y1 x4 → Q A_2) ∧ (¬ (x5 = 0) → wp_from z A y1 (fun r_3 => hz_rL x5 ∧ (0 ≤ r_3 + x4 ∧ r_3 + x4 < 553480) ∧ ∀ A_4 : Nat → Nat → Int, A_4 = hz_s A 0 (r_3 + x4) (x5 % 16777216) → ∀ x4_5 : Int, x4_5 = x4 + 1 → (0 ≤ x5 ∧ hz_rL x5) ∧ ∀ x5_6 : Int, x5_6 = x5 / 16777216 → P34 A_4 x4_5 x5_6))) → P34 A x4 x5) → P34 A x4 x5
noncomputable def wp_bigSet_32 (z : Nat → Int) (A : Nat → Nat → Int) (y1 : Int) (x4 : Int) (t0 : Int) (Q : (Nat → Nat → Int) → Prop) : Prop := wp_bigSet_34 z A y1 x4 t0  Q
noncomputable def wp_bigSet_16 (z : Nat → Int) (A : Nat → Nat → Int) (y1 : Int) (y2 : Int) (t0 : Int) (t1 : Int) (Q : (Nat → Nat → Int) → Prop) : Prop := (0 ≤ t1 ∧ t1 < 4250) ∧ (t0 = 0 ∨ t0 = 1) ∧ ∀ A_7 : Nat → Nat → Int, A_7 = hz_s A 2 t1 t0 → hz_rL y2 ∧ ((0 ≤ y2 → wp_bigSet_32 z A_7 y1 0 y2  Q) ∧ (¬ (0 ≤ y2) → wp_bigSet_32 z A_7 y1 0 (-y2)  Q))
noncomputable def wp_bigSet (z : Nat → Int) (A : Nat → Nat → Int) (y1 : Int) (y2 : Int) (Q : (Nat → Nat → Int) → Prop) : Prop := hz_rL y2 ∧ ((0 ≤ y2 → wp_bigSet_16 z A y1 y2 0 y1  Q) ∧ (¬ (0 ≤ y2) → wp_bigSet_16 z A y1 y2 1 y1  Q))
set_option maxHeartbeats 4000000 in
set_option maxRecDepth 100000 in
theorem k_bigSet (l : Launch) (D : va_G) (sz : Nat) (om : Nat) (R : Nat → Nat) (C : Nat → ClassId) (z : Nat → Int) (A : Nat → Nat → Int) (y1 : Int) (y2 : Int) (Q : (Nat → Nat → Int) → Prop) (hw : wp_bigSet z A y1 y2 Q) : Met l yX12_bigSet wsX12_bigSet ({ frames := 1, cells := 0, slots := 0, locals := 20 } : Room) (va_Pc [.ref om, .int (hz_i y1), .long (hz_l y2)] (hm_P D (mw_w om R C z A) (mw_t C) sz)) (va_Qv (S := Int × (Nat → Int) × (Nat → Nat → Int)) (fun u => Q u.2.2) (fun u t => hm_B D (va_A (mw_w om R C z A) sz) (mw_w om R C z u.2.2) (mw_t C) t) (va_A (mw_w om R C z A) sz)) 0 0 (va_A (mw_w om R C z A) sz) := by
  refine Met.ofW (cc := cX12_bigSet) (maxL := 7) (ret := none) (by decide) rfl ?_
  intro p e s m args below meth c s₁ B hml hv
  obtain ⟨rfl, hsz, hP, hK, hD0, hE⟩ := hv
  have hx := B.exec
  have hb := B.bytes
  have hr := B.returns
  have hts := atoms_spec (ws := wsX12_bigSet) B.pre
  have hown : s.vm.findClass RX12 = some m.cls := findClass_of_methodNamed B.named
  have hlocks := B.notSynchronized
  have hin12 : ∀ w ∈ u_ws RX12 TX12 58, w ∈ wsX12_bigSet := fun w h => List.mem_cons_of_mem _ (List.mem_append_right _ (h))
  subst hsz
  have hD := hD0.self (sz := s.heap.size)
  generalize hAe : va_A (mw_w om R C z A) s.heap.size = Ad at hD ⊢
  have hA : ∀ q : Nat, s.heap.size ≤ q → Ad q := fun q h => by rw [← hAe]; exact Or.inr h
  have hS : va_S Ad s.heap s.heap [] := va_S.rf
  have hl := lv_entry ([.ref om, .int (hz_i y1), .long (hz_l y2)]) (n := 7) (Nat.le_of_ble_eq_true rfl)
  rw [lg_entry_eq]
  generalize (lg_sl ([.ref om, .int (hz_i y1), .long (hz_l y2)]) ++ List.replicate (7 - (lg_sl ([.ref om, .int (hz_i y1), .long (hz_l y2)])).length) Slot.unset).toArray = ls at hl ⊢
  have hl : lv_has ls 7 [(0, .ref om), (1, .int (hz_i y1)), (2, .long (hz_l y2))] := hl
  refine mw_Q (fun QQ hQQ => ?_)
  have hP0 := hP; have hD0 := hD; have hS0 := hS; have hl0 := hl; have hw0 := hw
  clear hP hD hS hl hw
  have L34 : ∀ (A : Nat → Nat → Int) (x4 : Int) (x5 : Int), wp_bigSet_34 z A y1 x4 x5  Q → ∀ (H : Heap) (locs : List Loc) (ls : Array Slot), va_P D vwCl (mw_w om R C z A) H → va_D Ad (mw_w om R C z A) → va_S Ad s.heap H locs → lv_has ls 7 [(0, .ref om), (1, .int (hz_i y1)), (4, .int (hz_i x4)), (5, .long (hz_l x5))] → W p l e (headSpec wsX12_bigSet ({ frames := 1, cells := 0, slots := 0, locals := 20 } : Room)).room s m (List.toArray [.ref om, .int (hz_i y1), .long (hz_l y2)]) below meth c H locs 0 0 QQ (F0 m 34 ls []) := by
    intro A x4 x5 hw
    obtain ⟨P34, hP34⟩ : ∃ P : (Nat → Nat → Int) → Int → Int → Prop, ∀ (A : Nat → Nat → Int) (x4 : Int) (x5 : Int), P A x4 x5 ↔ (∀ (H : Heap) (locs : List Loc) (ls : Array Slot), va_P D vwCl (mw_w om R C z A) H → va_D Ad (mw_w om R C z A) → va_S Ad s.heap H locs → lv_has ls 7 [(0, .ref om), (1, .int (hz_i y1)), (4, .int (hz_i x4)), (5, .long (hz_l x5))] → W p l e (headSpec wsX12_bigSet ({ frames := 1, cells := 0, slots := 0, locals := 20 } : Room)).room s m (List.toArray [.ref om, .int (hz_i y1), .long (hz_l y2)]) below meth c H locs 0 0 QQ (F0 m 34 ls [])) := ⟨fun (A : Nat → Nat → Int) (x4 : Int) (x5 : Int) => ∀ (H : Heap) (locs : List Loc) (ls : Array Slot), va_P D vwCl (mw_w om R C z A) H → va_D Ad (mw_w om R C z A) → va_S Ad s.heap H locs → lv_has ls 7 [(0, .ref om), (1, .int (hz_i y1)), (4, .int (hz_i x4)), (5, .long (hz_l x5))] → W p l e (headSpec wsX12_bigSet ({ frames := 1, cells := 0, slots := 0, locals := 20 } : Room)).room s m (List.toArray [.ref om, .int (hz_i y1), .long (hz_l y2)]) below meth c H locs 0 0 QQ (F0 m 34 ls []), fun _ _ _ => Iff.rfl⟩
    refine (hP34 A x4 x5).mp (hw P34 ?_)
    intro A x4 x5 hw
    refine (hP34 A x4 x5).mpr ?_
    intro H locs ls hP hD hS hl
    refine lv_lload hx hb dX12_bigSet_34 (lv_at hl 3 rfl) ?_
    refine lv_lconst (v := hz_l 0) hx hb dX12_bigSet_36 (by decide +kernel) ?_
    obtain ⟨h9a, hw⟩ := hw
    refine hz_lcmp_eq (tgt := 73) hx hb dX12_bigSet_37 dX12_bigSet_38 (by decide) h9a ⟨by decide, by decide⟩ (fun c_1 => ?_) (fun c_1 => ?_)
    · have hw := hw.1 c_1
      refine lv_aload_n hx hb dX12_bigSet_73 rfl (lv_at hl 0 rfl) ?_
      refine mw_get (v := .ref (R 1)) hx hb hts hin12 hown hK hP 1 (by decide) (hts (.fieldLink RX12 18 "HiddenMovesModel" "lengths" "[I") (List.mem_cons_of_mem _ (List.mem_append_left _ (List.mem_of_getElem? (i := 3) rfl)))) (fun _ h9 => h9) rfl dX12_bigSet_74 ?_
      refine lv_iload_n hx hb dX12_bigSet_77 rfl (lv_at hl 1 rfl) ?_
      refine lv_iload hx hb dX12_bigSet_78 (lv_at hl 2 rfl) ?_
      obtain ⟨h9i, hw⟩ := hw
      refine mw_ist (k := 1) (n := 4250) (i := y1) (v := x4) hx hb hK hP hD hS 2 1 rfl rfl (mw_a1 om R C z A) h9i (by decide) dX12_bigSet_80 (fun H locs hP hD hS => ?_)
      obtain ⟨A_2, hA_2⟩ : ∃ y : Nat → Nat → Int, y = hz_s A 1 y1 x4 := ⟨_, rfl⟩
      rw [← hA_2] at hP hD
      have hw := hw A_2 hA_2
      subst hQQ
      subst hAe
      exact W.vret hx hb hr (fun t ht hW => ⟨⟨(0, z, A_2), rfl, hw, by rw [ht]; exact hP, va_K.moved hW.alike hK, hD⟩, hS.F ht⟩) hS.2.2 dX12_bigSet_81
    · have hw := hw.2 c_1
      refine lv_aload_n hx hb dX12_bigSet_41 rfl (lv_at hl 0 rfl) ?_
      refine mw_get (v := .ref (R 0)) hx hb hts hin12 hown hK hP 0 (by decide) (hts (.fieldLink RX12 8 "HiddenMovesModel" "parts" "[I") (List.mem_cons_of_mem _ (List.mem_append_left _ (List.mem_of_getElem? (i := 1) rfl)))) (fun _ h9 => h9) rfl dX12_bigSet_42 ?_
      refine lv_iload_n hx hb dX12_bigSet_45 rfl (lv_at hl 1 rfl) ?_
      have hFc := mw_free hD hS hA
      refine va_calli (va_runS (As := [.int (hz_i y1)]) (rest := [.ref (R 0)]) ⟨hx, hb, hml, hown, hts⟩ (k_from l D _ om R C z A y1 _ hw) (va_cwS 1 hts gX12_bigSet_X12_from rfl rfl rfl (by decide +kernel) ⟨Nat.le_of_ble_eq_true rfl, Nat.le_of_ble_eq_true rfl⟩) ⟨hm_blind, hm_pre hP hK hD hE⟩ rfl rfl hl.1 rfl (lv_room (Nat.le_of_ble_eq_true rfl)) dX12_bigSet_46 ⟨Nat.le_of_ble_eq_true rfl, Nat.le_of_ble_eq_true rfl⟩) hS (fun q _ h => hFc q h) hFc (fun rv u t H1 locs ht hvm hw hB hz1 hk1 hS => ?_)
      obtain ⟨r_3, _, _⟩ := u
      obtain ⟨hP, hK1, hD1⟩ := hB
      rw [ht] at hP
      obtain ⟨hrv, hw⟩ := hw
      subst hrv
      have hD := hD1.weaken (fun k q _ h => hFc q.1 h)
      have hP : va_P D vwCl (mw_w om R C z A) H1 := hP
      have hD : va_D Ad (mw_w om R C z A) := hD
      generalize H1 = H at hP hS ⊢
      refine W.eq (g2 := F0 m 49 ls [.int (hz_i r_3), .ref (R 0)]) rfl ?_
      refine lv_iload hx hb dX12_bigSet_49 (lv_at hl 2 rfl) ?_
      refine hz_iadd hx hb dX12_bigSet_51 ?_
      refine lv_lload hx hb dX12_bigSet_52 (lv_at hl 3 rfl) ?_
      refine lv_ldc2 hx hb hown (hts (.constantLong RX12 16 (16777215)) (List.mem_cons_of_mem _ (List.mem_append_left _ (List.mem_of_getElem? (i := 2) rfl)))) dX12_bigSet_54 ?_
      refine hz_asl (b := 16777215) (by decide +kernel) ?_
      obtain ⟨h9a, hw⟩ := hw
      refine hz_wland (P := 16777216) hx hb 24 dX12_bigSet_57 (by decide) (by decide +kernel) (by decide +kernel) h9a ?_
      refine hz_wl2i hx hb dX12_bigSet_58 ?_
      obtain ⟨h9i, hw⟩ := hw
      refine mw_ist (k := 0) (n := 553480) (i := r_3 + x4) (v := x5 % 16777216) hx hb hK hP hD hS 1 0 rfl rfl (mw_a0 om R C z A) h9i (by decide) dX12_bigSet_59 (fun H locs hP hD hS => ?_)
      obtain ⟨A_4, hA_4⟩ : ∃ y : Nat → Nat → Int, y = hz_s A 0 (r_3 + x4) (x5 % 16777216) := ⟨_, rfl⟩
      rw [← hA_4] at hP hD
      have hw := hw A_4 hA_4
      obtain ⟨x4_5, hx4_5⟩ : ∃ y : Int, y = x4 + 1 := ⟨_, rfl⟩
      have hw := hw x4_5 hx4_5
      refine lv_iinc (v := hz_i x4_5) (lv' := [(4, .int (hz_i x4_5)), (0, .ref om), (1, .int (hz_i y1)), (5, .long (hz_l x5))]) hx hb dX12_bigSet_60 hl (k := 2) rfl (by rw [hx4_5]; exact hz_i_add _ _) (by decide) rfl (fun ls hl => ?_)
      refine lv_lload hx hb dX12_bigSet_63 (lv_at hl 3 rfl) ?_
      refine lv_bipush (v := hz_i 24) hx hb dX12_bigSet_65 (by decide +kernel) ?_
      obtain ⟨h9a, hw⟩ := hw
      refine hz_wlushr (P := 16777216) (d := 24) hx hb dX12_bigSet_67 h9a (by decide +kernel) (by decide +kernel) ?_
      refine hz_topl (fun x5_6 hx5_6 => ?_)
      have hw := hw x5_6 hx5_6
      refine lv_lstore (lv' := [(5, .long (hz_l x5_6)), (4, .int (hz_i x4_5)), (0, .ref om), (1, .int (hz_i y1))]) hx hb dX12_bigSet_68 hl (by decide) rfl (fun ls hl => ?_)
      refine lv_goto (tgt := 34) hx hb dX12_bigSet_70 (by decide) ?_
      exact (hP34 A_4 x4_5 x5_6).mp hw H locs ls hP hD hS (lv_sub hl [2, 3, 1, 0] rfl)
  have L32 : ∀ (A : Nat → Nat → Int) (x4 : Int) (t0 : Int), wp_bigSet_32 z A y1 x4 t0  Q → ∀ (H : Heap) (locs : List Loc) (ls : Array Slot), va_P D vwCl (mw_w om R C z A) H → va_D Ad (mw_w om R C z A) → va_S Ad s.heap H locs → lv_has ls 7 [(0, .ref om), (1, .int (hz_i y1)), (4, .int (hz_i x4))] → W p l e (headSpec wsX12_bigSet ({ frames := 1, cells := 0, slots := 0, locals := 20 } : Room)).room s m (List.toArray [.ref om, .int (hz_i y1), .long (hz_l y2)]) below meth c H locs 0 0 QQ (F0 m 32 ls [.long (hz_l t0)]) := by
    intro A x4 t0 hw H locs ls hP hD hS hl
    refine lv_lstore (lv' := [(5, .long (hz_l t0)), (0, .ref om), (1, .int (hz_i y1)), (4, .int (hz_i x4))]) hx hb dX12_bigSet_32 hl (by decide) rfl (fun ls hl => ?_)
    exact L34 A x4 t0 hw H locs ls hP hD hS (lv_sub hl [1, 2, 3, 0] rfl)
  have L16 : ∀ (A : Nat → Nat → Int) (t0 : Int) (t1 : Int), wp_bigSet_16 z A y1 y2 t0 t1  Q → ∀ (H : Heap) (locs : List Loc) (ls : Array Slot), va_P D vwCl (mw_w om R C z A) H → va_D Ad (mw_w om R C z A) → va_S Ad s.heap H locs → lv_has ls 7 [(0, .ref om), (1, .int (hz_i y1)), (2, .long (hz_l y2))] → W p l e (headSpec wsX12_bigSet ({ frames := 1, cells := 0, slots := 0, locals := 20 } : Room)).room s m (List.toArray [.ref om, .int (hz_i y1), .long (hz_l y2)]) below meth c H locs 0 0 QQ (F0 m 16 ls [.int (hz_i t0), .int (hz_i t1), .ref (R 2)]) := by
    intro A t0 t1 hw H locs ls hP hD hS hl
    obtain ⟨h9i, hw⟩ := hw
    obtain ⟨h9z, hw⟩ := hw
    refine mw_zst (k := 2) (n := 4250) (i := t1) (v := t0) hx hb hK hP hD hS 3 2 rfl rfl (mw_a2 om R C z A) h9i (by decide) h9z dX12_bigSet_16 (fun H locs hP hD hS => ?_)
    obtain ⟨A_7, hA_7⟩ : ∃ y : Nat → Nat → Int, y = hz_s A 2 t1 t0 := ⟨_, rfl⟩
    rw [← hA_7] at hP hD
    have hw := hw A_7 hA_7
    refine lv_iconst (v := hz_i 0) hx hb dX12_bigSet_17 (by decide +kernel) ?_
    refine lv_istore (lv' := [(4, .int (hz_i 0)), (0, .ref om), (1, .int (hz_i y1)), (2, .long (hz_l y2))]) hx hb dX12_bigSet_18 hl (by decide) rfl (fun ls hl => ?_)
    refine lv_lload_n hx hb dX12_bigSet_20 rfl (lv_at hl 3 rfl) ?_
    refine lv_lconst (v := hz_l 0) hx hb dX12_bigSet_21 (by decide +kernel) ?_
    obtain ⟨h9a, hw⟩ := hw
    refine hz_lcmp_ge (tgt := 31) hx hb dX12_bigSet_22 dX12_bigSet_23 (by decide) h9a ⟨by decide, by decide⟩ (fun c_8 => ?_) (fun c_8 => ?_)
    · have hw := hw.1 c_8
      refine lv_lload_n hx hb dX12_bigSet_31 rfl (lv_at hl 3 rfl) ?_
      exact L32 A_7 0 y2 hw H locs ls hP hD hS (lv_sub hl [1, 2, 0] rfl)
    · have hw := hw.2 c_8
      refine lv_lload_n hx hb dX12_bigSet_26 rfl (lv_at hl 3 rfl) ?_
      refine hz_lneg hx hb dX12_bigSet_27 ?_
      refine lv_goto (tgt := 32) hx hb dX12_bigSet_28 (by decide) ?_
      exact L32 A_7 0 (-y2) hw H locs ls hP hD hS (lv_sub hl [1, 2, 0] rfl)
  have hP := hP0; have hD := hD0; have hS := hS0; have hl := hl0; have hw := hw0
  obtain ⟨H, hH⟩ : ∃ H : Heap, H = s.heap := ⟨_, rfl⟩
  obtain ⟨locs, hlocs⟩ : ∃ L : List Loc, L = [] := ⟨_, rfl⟩
  rw [← hH] at hP
  have hS : va_S Ad s.heap H locs := by rw [hH, hlocs]; exact hS
  refine mw_HL hH hlocs ?_
  refine lv_aload_n hx hb dX12_bigSet_0 rfl (lv_at hl 0 rfl) ?_
  refine mw_get (v := .ref (R 2)) hx hb hts hin12 hown hK hP 2 (by decide) (hts (.fieldLink RX12 4 "HiddenMovesModel" "minus" "[Z") (List.mem_cons_of_mem _ (List.mem_append_left _ (List.mem_of_getElem? (i := 0) rfl)))) (fun _ h9 => h9) rfl dX12_bigSet_1 ?_
  refine lv_iload_n hx hb dX12_bigSet_4 rfl (lv_at hl 1 rfl) ?_
  refine lv_lload_n hx hb dX12_bigSet_5 rfl (lv_at hl 2 rfl) ?_
  refine lv_lconst (v := hz_l 0) hx hb dX12_bigSet_6 (by decide +kernel) ?_
  obtain ⟨h9a, hw⟩ := hw
  refine hz_lcmp_ge (tgt := 15) hx hb dX12_bigSet_7 dX12_bigSet_8 (by decide) h9a ⟨by decide, by decide⟩ (fun c_9 => ?_) (fun c_9 => ?_)
  · have hw := hw.1 c_9
    refine lv_iconst (v := hz_i 0) hx hb dX12_bigSet_15 (by decide +kernel) ?_
    exact L16 A 0 y1 hw H locs ls hP hD hS (lv_sub hl [0, 1, 2] rfl)
  · have hw := hw.2 c_9
    refine lv_iconst (v := hz_i 1) hx hb dX12_bigSet_11 (by decide +kernel) ?_
    refine lv_goto (tgt := 16) hx hb dX12_bigSet_12 (by decide) ?_
    exact L16 A 1 y1 hw H locs ls hP hD hS (lv_sub hl [0, 1, 2] rfl)

noncomputable def wp_bigCopy_26 (z : Nat → Int) (A : Nat → Nat → Int) (y1 : Int) (y2 : Int) (x3 : Int) (Q : (Nat → Nat → Int) → Prop) : Prop := ∀ P26 : (Nat → Nat → Int) → Int → Prop, (∀ (A : Nat → Nat → Int) (x3 : Int), (0 ≤ y2 ∧ y2 < 4250) ∧ hz_rI x3 ∧ hz_rI (A 1 (y2.toNat)) ∧ ((A 1 (y2.toNat) ≤ x3 → Q A) ∧ (¬ (A 1 (y2.toNat) ≤ x3) → wp_from z A y1 (fun r_2 => wp_from z A y2 (fun r_3 => (0 ≤ r_3 + x3 ∧ r_3 + x3 < 553480) ∧ (0 ≤ r_2 + x3 ∧ r_2 + x3 < 553480) ∧ ∀ A_4 : Nat → Nat → Int, A_4 = hz_s A 0 (r_2 + x3) (A 0 ((r_3 + x3).toNat)) → ∀ x3_5 : Int, x3_5 = x3 + 1 → P26 A_4 x3_5)))) → P26 A x3) → P26 A x3
noncomputable def wp_bigCopy (z : Nat → Int) (A : Nat → Nat → Int) (y1 : Int) (y2 : Int) (Q : (Nat → Nat → Int) → Prop) : Prop := (0 ≤ y2 ∧ y2 < 4250) ∧ (0 ≤ y1 ∧ y1 < 4250) ∧ (A 2 (y2.toNat) = 0 ∨ A 2 (y2.toNat) = 1) ∧ ∀ A_6 : Nat → Nat → Int, A_6 = hz_s A 2 y1 (A 2 (y2.toNat)) → (0 ≤ y2 ∧ y2 < 4250) ∧ (0 ≤ y1 ∧ y1 < 4250) ∧ ∀ A_7 : Nat → Nat → Int, A_7 = hz_s A_6 1 y1 (A_6 1 (y2.toNat)) → wp_bigCopy_26 z A_7 y1 y2 0  Q
set_option maxHeartbeats 4000000 in
set_option maxRecDepth 100000 in
theorem k_bigCopy (l : Launch) (D : va_G) (sz : Nat) (om : Nat) (R : Nat → Nat) (C : Nat → ClassId) (z : Nat → Int) (A : Nat → Nat → Int) (y1 : Int) (y2 : Int) (Q : (Nat → Nat → Int) → Prop) (hw : wp_bigCopy z A y1 y2 Q) : Met l yX12_bigCopy wsX12_bigCopy ({ frames := 1, cells := 0, slots := 0, locals := 20 } : Room) (va_Pc [.ref om, .int (hz_i y1), .int (hz_i y2)] (hm_P D (mw_w om R C z A) (mw_t C) sz)) (va_Qv (S := Int × (Nat → Int) × (Nat → Nat → Int)) (fun u => Q u.2.2) (fun u t => hm_B D (va_A (mw_w om R C z A) sz) (mw_w om R C z u.2.2) (mw_t C) t) (va_A (mw_w om R C z A) sz)) 0 0 (va_A (mw_w om R C z A) sz) := by
  refine Met.ofW (cc := cX12_bigCopy) (maxL := 4) (ret := none) (by decide) rfl ?_
  intro p e s m args below meth c s₁ B hml hv
  obtain ⟨rfl, hsz, hP, hK, hD0, hE⟩ := hv
  have hx := B.exec
  have hb := B.bytes
  have hr := B.returns
  have hts := atoms_spec (ws := wsX12_bigCopy) B.pre
  have hown : s.vm.findClass RX12 = some m.cls := findClass_of_methodNamed B.named
  have hlocks := B.notSynchronized
  have hin12 : ∀ w ∈ u_ws RX12 TX12 58, w ∈ wsX12_bigCopy := fun w h => List.mem_cons_of_mem _ (List.mem_append_right _ (h))
  subst hsz
  have hD := hD0.self (sz := s.heap.size)
  generalize hAe : va_A (mw_w om R C z A) s.heap.size = Ad at hD ⊢
  have hA : ∀ q : Nat, s.heap.size ≤ q → Ad q := fun q h => by rw [← hAe]; exact Or.inr h
  have hS : va_S Ad s.heap s.heap [] := va_S.rf
  have hl := lv_entry ([.ref om, .int (hz_i y1), .int (hz_i y2)]) (n := 4) (Nat.le_of_ble_eq_true rfl)
  rw [lg_entry_eq]
  generalize (lg_sl ([.ref om, .int (hz_i y1), .int (hz_i y2)]) ++ List.replicate (4 - (lg_sl ([.ref om, .int (hz_i y1), .int (hz_i y2)])).length) Slot.unset).toArray = ls at hl ⊢
  have hl : lv_has ls 4 [(0, .ref om), (1, .int (hz_i y1)), (2, .int (hz_i y2))] := hl
  refine mw_Q (fun QQ hQQ => ?_)
  have hP0 := hP; have hD0 := hD; have hS0 := hS; have hl0 := hl; have hw0 := hw
  clear hP hD hS hl hw
  have L26 : ∀ (A : Nat → Nat → Int) (x3 : Int), wp_bigCopy_26 z A y1 y2 x3  Q → ∀ (H : Heap) (locs : List Loc) (ls : Array Slot), va_P D vwCl (mw_w om R C z A) H → va_D Ad (mw_w om R C z A) → va_S Ad s.heap H locs → lv_has ls 4 [(0, .ref om), (1, .int (hz_i y1)), (2, .int (hz_i y2)), (3, .int (hz_i x3))] → W p l e (headSpec wsX12_bigCopy ({ frames := 1, cells := 0, slots := 0, locals := 20 } : Room)).room s m (List.toArray [.ref om, .int (hz_i y1), .int (hz_i y2)]) below meth c H locs 0 0 QQ (F0 m 26 ls []) := by
    intro A x3 hw
    obtain ⟨P26, hP26⟩ : ∃ P : (Nat → Nat → Int) → Int → Prop, ∀ (A : Nat → Nat → Int) (x3 : Int), P A x3 ↔ (∀ (H : Heap) (locs : List Loc) (ls : Array Slot), va_P D vwCl (mw_w om R C z A) H → va_D Ad (mw_w om R C z A) → va_S Ad s.heap H locs → lv_has ls 4 [(0, .ref om), (1, .int (hz_i y1)), (2, .int (hz_i y2)), (3, .int (hz_i x3))] → W p l e (headSpec wsX12_bigCopy ({ frames := 1, cells := 0, slots := 0, locals := 20 } : Room)).room s m (List.toArray [.ref om, .int (hz_i y1), .int (hz_i y2)]) below meth c H locs 0 0 QQ (F0 m 26 ls [])) := ⟨fun (A : Nat → Nat → Int) (x3 : Int) => ∀ (H : Heap) (locs : List Loc) (ls : Array Slot), va_P D vwCl (mw_w om R C z A) H → va_D Ad (mw_w om R C z A) → va_S Ad s.heap H locs → lv_has ls 4 [(0, .ref om), (1, .int (hz_i y1)), (2, .int (hz_i y2)), (3, .int (hz_i x3))] → W p l e (headSpec wsX12_bigCopy ({ frames := 1, cells := 0, slots := 0, locals := 20 } : Room)).room s m (List.toArray [.ref om, .int (hz_i y1), .int (hz_i y2)]) below meth c H locs 0 0 QQ (F0 m 26 ls []), fun _ _ => Iff.rfl⟩
    refine (hP26 A x3).mp (hw P26 ?_)
    intro A x3 hw
    refine (hP26 A x3).mpr ?_
    intro H locs ls hP hD hS hl
    refine lv_iload_n hx hb dX12_bigCopy_26 rfl (lv_at hl 3 rfl) ?_
    refine lv_aload_n hx hb dX12_bigCopy_27 rfl (lv_at hl 0 rfl) ?_
    refine mw_get (v := .ref (R 1)) hx hb hts hin12 hown hK hP 1 (by decide) (hts (.fieldLink RX12 18 "HiddenMovesModel" "lengths" "[I") (List.mem_cons_of_mem _ (List.mem_append_left _ (List.mem_of_getElem? (i := 1) rfl)))) (fun _ h9 => h9) rfl dX12_bigCopy_28 ?_
    refine lv_iload_n hx hb dX12_bigCopy_31 rfl (lv_at hl 2 rfl) ?_
    obtain ⟨h9i, hw⟩ := hw
    refine mw_ild (k := 1) (n := 4250) (i := y2) hx hb hK hP 2 1 rfl rfl h9i (by decide) dX12_bigCopy_32 ?_
    obtain ⟨h9a, hw⟩ := hw
    obtain ⟨h9b, hw⟩ := hw
    refine hz_icmp_ge (tgt := 64) hx hb dX12_bigCopy_33 (by decide) h9a h9b (fun c_1 => ?_) (fun c_1 => ?_)
    · have hw := hw.1 c_1
      subst hQQ
      subst hAe
      exact W.vret hx hb hr (fun t ht hW => ⟨⟨(0, z, A), rfl, hw, by rw [ht]; exact hP, va_K.moved hW.alike hK, hD⟩, hS.F ht⟩) hS.2.2 dX12_bigCopy_64
    · have hw := hw.2 c_1
      refine lv_aload_n hx hb dX12_bigCopy_36 rfl (lv_at hl 0 rfl) ?_
      refine mw_get (v := .ref (R 0)) hx hb hts hin12 hown hK hP 0 (by decide) (hts (.fieldLink RX12 8 "HiddenMovesModel" "parts" "[I") (List.mem_cons_of_mem _ (List.mem_append_left _ (List.mem_of_getElem? (i := 2) rfl)))) (fun _ h9 => h9) rfl dX12_bigCopy_37 ?_
      refine lv_iload_n hx hb dX12_bigCopy_40 rfl (lv_at hl 1 rfl) ?_
      have hFc := mw_free hD hS hA
      refine va_calli (va_runS (As := [.int (hz_i y1)]) (rest := [.ref (R 0)]) ⟨hx, hb, hml, hown, hts⟩ (k_from l D _ om R C z A y1 _ hw) (va_cwS 1 hts gX12_bigCopy_X12_from rfl rfl rfl (by decide +kernel) ⟨Nat.le_of_ble_eq_true rfl, Nat.le_of_ble_eq_true rfl⟩) ⟨hm_blind, hm_pre hP hK hD hE⟩ rfl rfl hl.1 rfl (lv_room (Nat.le_of_ble_eq_true rfl)) dX12_bigCopy_41 ⟨Nat.le_of_ble_eq_true rfl, Nat.le_of_ble_eq_true rfl⟩) hS (fun q _ h => hFc q h) hFc (fun rv u t H1 locs ht hvm hw hB hz1 hk1 hS => ?_)
      obtain ⟨r_2, _, _⟩ := u
      obtain ⟨hP, hK1, hD1⟩ := hB
      rw [ht] at hP
      obtain ⟨hrv, hw⟩ := hw
      subst hrv
      have hD := hD1.weaken (fun k q _ h => hFc q.1 h)
      have hP : va_P D vwCl (mw_w om R C z A) H1 := hP
      have hD : va_D Ad (mw_w om R C z A) := hD
      generalize H1 = H at hP hS ⊢
      refine W.eq (g2 := F0 m 44 ls [.int (hz_i r_2), .ref (R 0)]) rfl ?_
      refine lv_iload_n hx hb dX12_bigCopy_44 rfl (lv_at hl 3 rfl) ?_
      refine hz_iadd hx hb dX12_bigCopy_45 ?_
      refine lv_aload_n hx hb dX12_bigCopy_46 rfl (lv_at hl 0 rfl) ?_
      refine mw_get (v := .ref (R 0)) hx hb hts hin12 hown hK hP 0 (by decide) (hts (.fieldLink RX12 8 "HiddenMovesModel" "parts" "[I") (List.mem_cons_of_mem _ (List.mem_append_left _ (List.mem_of_getElem? (i := 2) rfl)))) (fun _ h9 => h9) rfl dX12_bigCopy_47 ?_
      refine lv_iload_n hx hb dX12_bigCopy_50 rfl (lv_at hl 2 rfl) ?_
      have hFc := mw_free hD hS hA
      refine va_calli (va_runS (As := [.int (hz_i y2)]) (rest := [.ref (R 0), .int (hz_i (r_2 + x3)), .ref (R 0)]) ⟨hx, hb, hml, hown, hts⟩ (k_from l D _ om R C z A y2 _ hw) (va_cwS 1 hts gX12_bigCopy_X12_from rfl rfl rfl (by decide +kernel) ⟨Nat.le_of_ble_eq_true rfl, Nat.le_of_ble_eq_true rfl⟩) ⟨hm_blind, hm_pre hP hK hD hE⟩ rfl rfl hl.1 rfl (lv_room (Nat.le_of_ble_eq_true rfl)) dX12_bigCopy_51 ⟨Nat.le_of_ble_eq_true rfl, Nat.le_of_ble_eq_true rfl⟩) hS (fun q _ h => hFc q h) hFc (fun rv u t H1 locs ht hvm hw hB hz1 hk1 hS => ?_)
      obtain ⟨r_3, _, _⟩ := u
      obtain ⟨hP, hK1, hD1⟩ := hB
      rw [ht] at hP
      obtain ⟨hrv, hw⟩ := hw
      subst hrv
      have hD := hD1.weaken (fun k q _ h => hFc q.1 h)
      have hP : va_P D vwCl (mw_w om R C z A) H1 := hP
      have hD : va_D Ad (mw_w om R C z A) := hD
      generalize H1 = H at hP hS ⊢
      refine W.eq (g2 := F0 m 54 ls [.int (hz_i r_3), .ref (R 0), .int (hz_i (r_2 + x3)), .ref (R 0)]) rfl ?_
      refine lv_iload_n hx hb dX12_bigCopy_54 rfl (lv_at hl 3 rfl) ?_
      refine hz_iadd hx hb dX12_bigCopy_55 ?_
      obtain ⟨h9i, hw⟩ := hw
      refine mw_ild (k := 0) (n := 553480) (i := r_3 + x3) hx hb hK hP 1 0 rfl rfl h9i (by decide) dX12_bigCopy_56 ?_
      obtain ⟨h9i, hw⟩ := hw
      refine mw_ist (k := 0) (n := 553480) (i := r_2 + x3) (v := A 0 ((r_3 + x3).toNat)) hx hb hK hP hD hS 1 0 rfl rfl (mw_a0 om R C z A) h9i (by decide) dX12_bigCopy_57 (fun H locs hP hD hS => ?_)
      obtain ⟨A_4, hA_4⟩ : ∃ y : Nat → Nat → Int, y = hz_s A 0 (r_2 + x3) (A 0 ((r_3 + x3).toNat)) := ⟨_, rfl⟩
      rw [← hA_4] at hP hD
      have hw := hw A_4 hA_4
      obtain ⟨x3_5, hx3_5⟩ : ∃ y : Int, y = x3 + 1 := ⟨_, rfl⟩
      have hw := hw x3_5 hx3_5
      refine lv_iinc (v := hz_i x3_5) (lv' := [(3, .int (hz_i x3_5)), (0, .ref om), (1, .int (hz_i y1)), (2, .int (hz_i y2))]) hx hb dX12_bigCopy_58 hl (k := 3) rfl (by rw [hx3_5]; exact hz_i_add _ _) (by decide) rfl (fun ls hl => ?_)
      refine lv_goto (tgt := 26) hx hb dX12_bigCopy_61 (by decide) ?_
      exact (hP26 A_4 x3_5).mp hw H locs ls hP hD hS (lv_sub hl [1, 2, 3, 0] rfl)
  have hP := hP0; have hD := hD0; have hS := hS0; have hl := hl0; have hw := hw0
  obtain ⟨H, hH⟩ : ∃ H : Heap, H = s.heap := ⟨_, rfl⟩
  obtain ⟨locs, hlocs⟩ : ∃ L : List Loc, L = [] := ⟨_, rfl⟩
  rw [← hH] at hP
  have hS : va_S Ad s.heap H locs := by rw [hH, hlocs]; exact hS
  refine mw_HL hH hlocs ?_
  refine lv_aload_n hx hb dX12_bigCopy_0 rfl (lv_at hl 0 rfl) ?_
  refine mw_get (v := .ref (R 2)) hx hb hts hin12 hown hK hP 2 (by decide) (hts (.fieldLink RX12 4 "HiddenMovesModel" "minus" "[Z") (List.mem_cons_of_mem _ (List.mem_append_left _ (List.mem_of_getElem? (i := 0) rfl)))) (fun _ h9 => h9) rfl dX12_bigCopy_1 ?_
  refine lv_iload_n hx hb dX12_bigCopy_4 rfl (lv_at hl 1 rfl) ?_
  refine lv_aload_n hx hb dX12_bigCopy_5 rfl (lv_at hl 0 rfl) ?_
  refine mw_get (v := .ref (R 2)) hx hb hts hin12 hown hK hP 2 (by decide) (hts (.fieldLink RX12 4 "HiddenMovesModel" "minus" "[Z") (List.mem_cons_of_mem _ (List.mem_append_left _ (List.mem_of_getElem? (i := 0) rfl)))) (fun _ h9 => h9) rfl dX12_bigCopy_6 ?_
  refine lv_iload_n hx hb dX12_bigCopy_9 rfl (lv_at hl 2 rfl) ?_
  obtain ⟨h9i, hw⟩ := hw
  refine mw_zld (k := 2) (n := 4250) (i := y2) hx hb hK hP 3 2 rfl rfl h9i (by decide) dX12_bigCopy_10 ?_
  obtain ⟨h9i, hw⟩ := hw
  obtain ⟨h9z, hw⟩ := hw
  refine mw_zst (k := 2) (n := 4250) (i := y1) (v := A 2 (y2.toNat)) hx hb hK hP hD hS 3 2 rfl rfl (mw_a2 om R C z A) h9i (by decide) h9z dX12_bigCopy_11 (fun H locs hP hD hS => ?_)
  obtain ⟨A_6, hA_6⟩ : ∃ y : Nat → Nat → Int, y = hz_s A 2 y1 (A 2 (y2.toNat)) := ⟨_, rfl⟩
  rw [← hA_6] at hP hD
  have hw := hw A_6 hA_6
  refine lv_aload_n hx hb dX12_bigCopy_12 rfl (lv_at hl 0 rfl) ?_
  refine mw_get (v := .ref (R 1)) hx hb hts hin12 hown hK hP 1 (by decide) (hts (.fieldLink RX12 18 "HiddenMovesModel" "lengths" "[I") (List.mem_cons_of_mem _ (List.mem_append_left _ (List.mem_of_getElem? (i := 1) rfl)))) (fun _ h9 => h9) rfl dX12_bigCopy_13 ?_
  refine lv_iload_n hx hb dX12_bigCopy_16 rfl (lv_at hl 1 rfl) ?_
  refine lv_aload_n hx hb dX12_bigCopy_17 rfl (lv_at hl 0 rfl) ?_
  refine mw_get (v := .ref (R 1)) hx hb hts hin12 hown hK hP 1 (by decide) (hts (.fieldLink RX12 18 "HiddenMovesModel" "lengths" "[I") (List.mem_cons_of_mem _ (List.mem_append_left _ (List.mem_of_getElem? (i := 1) rfl)))) (fun _ h9 => h9) rfl dX12_bigCopy_18 ?_
  refine lv_iload_n hx hb dX12_bigCopy_21 rfl (lv_at hl 2 rfl) ?_
  obtain ⟨h9i, hw⟩ := hw
  refine mw_ild (k := 1) (n := 4250) (i := y2) hx hb hK hP 2 1 rfl rfl h9i (by decide) dX12_bigCopy_22 ?_
  obtain ⟨h9i, hw⟩ := hw
  refine mw_ist (k := 1) (n := 4250) (i := y1) (v := A_6 1 (y2.toNat)) hx hb hK hP hD hS 2 1 rfl rfl (mw_a1 om R C z A_6) h9i (by decide) dX12_bigCopy_23 (fun H locs hP hD hS => ?_)
  obtain ⟨A_7, hA_7⟩ : ∃ y : Nat → Nat → Int, y = hz_s A_6 1 y1 (A_6 1 (y2.toNat)) := ⟨_, rfl⟩
  rw [← hA_7] at hP hD
  have hw := hw A_7 hA_7
  refine lv_iconst (v := hz_i 0) hx hb dX12_bigCopy_24 (by decide +kernel) ?_
  refine lv_istore_n (lv' := [(3, .int (hz_i 0)), (0, .ref om), (1, .int (hz_i y1)), (2, .int (hz_i y2))]) hx hb dX12_bigCopy_25 rfl hl (by decide) rfl (fun ls hl => ?_)
  exact L26 A_7 0 hw H locs ls hP hD hS (lv_sub hl [1, 2, 3, 0] rfl)

noncomputable def wp_bigIsZero_14 (z : Nat → Int) (A : Nat → Nat → Int) (t0 : Int) (Q : Int → Prop) : Prop := (t0 = 0 ∨ t0 = 1) ∧ Q t0
noncomputable def wp_bigIsZero (z : Nat → Int) (A : Nat → Nat → Int) (y1 : Int) (Q : Int → Prop) : Prop := (0 ≤ y1 ∧ y1 < 4250) ∧ hz_rI (A 1 (y1.toNat)) ∧ ((¬ A 1 (y1.toNat) = 0 → wp_bigIsZero_14 z A 0  Q) ∧ (A 1 (y1.toNat) = 0 → wp_bigIsZero_14 z A 1  Q))
set_option maxHeartbeats 4000000 in
set_option maxRecDepth 100000 in
theorem k_bigIsZero (l : Launch) (D : va_G) (sz : Nat) (om : Nat) (R : Nat → Nat) (C : Nat → ClassId) (z : Nat → Int) (A : Nat → Nat → Int) (y1 : Int) (Q : Int → Prop) (hw : wp_bigIsZero z A y1 Q) : Met l yX12_bigIsZero wsX12_bigIsZero ({ frames := 0, cells := 0, slots := 0, locals := 0 } : Room) (va_Pc [.ref om, .int (hz_i y1)] (hm_P D (mw_w om R C z A) (mw_t C) sz)) (va_Qi (S := Int × (Nat → Int) × (Nat → Nat → Int)) (fun r u => r = hz_i u.1 ∧ Q u.1) (fun u t => hm_B D (va_A (mw_w om R C z A) sz) (mw_w om R C z A) (mw_t C) t) (va_A (mw_w om R C z A) sz)) 0 0 (va_A (mw_w om R C z A) sz) := by
  refine Met.ofW (cc := cX12_bigIsZero) (maxL := 2) (ret := (some .boolean)) (by decide) rfl ?_
  intro p e s m args below meth c s₁ B hml hv
  obtain ⟨rfl, hsz, hP, hK, hD0, hE⟩ := hv
  have hx := B.exec
  have hb := B.bytes
  have hr := B.returns
  have hts := atoms_spec (ws := wsX12_bigIsZero) B.pre
  have hown : s.vm.findClass RX12 = some m.cls := findClass_of_methodNamed B.named
  have hlocks := B.notSynchronized
  have hin12 : ∀ w ∈ u_ws RX12 TX12 58, w ∈ wsX12_bigIsZero := fun w h => List.mem_cons_of_mem _ (List.mem_append_right _ (h))
  subst hsz
  have hD := hD0.self (sz := s.heap.size)
  generalize hAe : va_A (mw_w om R C z A) s.heap.size = Ad at hD ⊢
  have hA : ∀ q : Nat, s.heap.size ≤ q → Ad q := fun q h => by rw [← hAe]; exact Or.inr h
  have hS : va_S Ad s.heap s.heap [] := va_S.rf
  have hl := lv_entry ([.ref om, .int (hz_i y1)]) (n := 2) (Nat.le_of_ble_eq_true rfl)
  rw [lg_entry_eq]
  generalize (lg_sl ([.ref om, .int (hz_i y1)]) ++ List.replicate (2 - (lg_sl ([.ref om, .int (hz_i y1)])).length) Slot.unset).toArray = ls at hl ⊢
  have hl : lv_has ls 2 [(0, .ref om), (1, .int (hz_i y1))] := hl
  refine mw_Q (fun QQ hQQ => ?_)
  have hP0 := hP; have hD0 := hD; have hS0 := hS; have hl0 := hl; have hw0 := hw
  clear hP hD hS hl hw
  have L14 : ∀ (t0 : Int), wp_bigIsZero_14 z A t0  Q → ∀ (H : Heap) (locs : List Loc) (ls : Array Slot), va_P D vwCl (mw_w om R C z A) H → va_D Ad (mw_w om R C z A) → va_S Ad s.heap H locs → lv_has ls 2 [(0, .ref om)] → W p l e (headSpec wsX12_bigIsZero ({ frames := 0, cells := 0, slots := 0, locals := 0 } : Room)).room s m (List.toArray [.ref om, .int (hz_i y1)]) below meth c H locs 0 0 QQ (F0 m 14 ls [.int (hz_i t0)]) := by
    intro t0 hw H locs ls hP hD hS hl
    obtain ⟨h9z, hw⟩ := hw
    subst hQQ
    subst hAe
    exact W.zret (v := hz_i t0) hx hb hr (hz_tZ h9z) (fun t ht hW => ⟨⟨hz_i t0, (t0, z, A), rfl, ⟨rfl, hw⟩, by rw [ht]; exact hP, va_K.moved hW.alike hK, hD⟩, hS.F ht⟩) hS.2.2 dX12_bigIsZero_14
  have hP := hP0; have hD := hD0; have hS := hS0; have hl := hl0; have hw := hw0
  obtain ⟨H, hH⟩ : ∃ H : Heap, H = s.heap := ⟨_, rfl⟩
  obtain ⟨locs, hlocs⟩ : ∃ L : List Loc, L = [] := ⟨_, rfl⟩
  rw [← hH] at hP
  have hS : va_S Ad s.heap H locs := by rw [hH, hlocs]; exact hS
  refine mw_HL hH hlocs ?_
  refine lv_aload_n hx hb dX12_bigIsZero_0 rfl (lv_at hl 0 rfl) ?_
  refine mw_get (v := .ref (R 1)) hx hb hts hin12 hown hK hP 1 (by decide) (hts (.fieldLink RX12 18 "HiddenMovesModel" "lengths" "[I") (List.mem_cons_of_mem _ (List.mem_append_left _ (List.mem_of_getElem? (i := 0) rfl)))) (fun _ h9 => h9) rfl dX12_bigIsZero_1 ?_
  refine lv_iload_n hx hb dX12_bigIsZero_4 rfl (lv_at hl 1 rfl) ?_
  obtain ⟨h9i, hw⟩ := hw
  refine mw_ild (k := 1) (n := 4250) (i := y1) hx hb hK hP 2 1 rfl rfl h9i (by decide) dX12_bigIsZero_5 ?_
  obtain ⟨h9a, hw⟩ := hw
  refine hz_if_ne (tgt := 13) hx hb dX12_bigIsZero_6 (by decide) h9a (fun c_1 => ?_) (fun c_1 => ?_)
  · have hw := hw.1 c_1
    refine lv_iconst (v := hz_i 0) hx hb dX12_bigIsZero_13 (by decide +kernel) ?_
    exact L14 0 hw H locs ls hP hD hS (lv_sub hl [0] rfl)
  · have hw := hw.2 c_1
    refine lv_iconst (v := hz_i 1) hx hb dX12_bigIsZero_9 (by decide +kernel) ?_
    refine lv_goto (tgt := 14) hx hb dX12_bigIsZero_10 (by decide) ?_
    exact L14 1 hw H locs ls hP hD hS (lv_sub hl [0] rfl)

noncomputable def wp_bigSign_27 (z : Nat → Int) (A : Nat → Nat → Int) (t0 : Int) (Q : Int → Prop) : Prop := Q t0
noncomputable def wp_bigSign (z : Nat → Int) (A : Nat → Nat → Int) (y1 : Int) (Q : Int → Prop) : Prop := (0 ≤ y1 ∧ y1 < 4250) ∧ hz_rI (A 1 (y1.toNat)) ∧ ((¬ A 1 (y1.toNat) = 0 → (0 ≤ y1 ∧ y1 < 4250) ∧ hz_rI (A 2 (y1.toNat)) ∧ ((A 2 (y1.toNat) = 0 → wp_bigSign_27 z A 1  Q) ∧ (¬ (A 2 (y1.toNat) = 0) → wp_bigSign_27 z A (-1)  Q))) ∧ (A 1 (y1.toNat) = 0 → wp_bigSign_27 z A 0  Q))
set_option maxHeartbeats 4000000 in
set_option maxRecDepth 100000 in
theorem k_bigSign (l : Launch) (D : va_G) (sz : Nat) (om : Nat) (R : Nat → Nat) (C : Nat → ClassId) (z : Nat → Int) (A : Nat → Nat → Int) (y1 : Int) (Q : Int → Prop) (hw : wp_bigSign z A y1 Q) : Met l yX12_bigSign wsX12_bigSign ({ frames := 0, cells := 0, slots := 0, locals := 0 } : Room) (va_Pc [.ref om, .int (hz_i y1)] (hm_P D (mw_w om R C z A) (mw_t C) sz)) (va_Qi (S := Int × (Nat → Int) × (Nat → Nat → Int)) (fun r u => r = hz_i u.1 ∧ Q u.1) (fun u t => hm_B D (va_A (mw_w om R C z A) sz) (mw_w om R C z A) (mw_t C) t) (va_A (mw_w om R C z A) sz)) 0 0 (va_A (mw_w om R C z A) sz) := by
  refine Met.ofW (cc := cX12_bigSign) (maxL := 2) (ret := (some .int)) (by decide) rfl ?_
  intro p e s m args below meth c s₁ B hml hv
  obtain ⟨rfl, hsz, hP, hK, hD0, hE⟩ := hv
  have hx := B.exec
  have hb := B.bytes
  have hr := B.returns
  have hts := atoms_spec (ws := wsX12_bigSign) B.pre
  have hown : s.vm.findClass RX12 = some m.cls := findClass_of_methodNamed B.named
  have hlocks := B.notSynchronized
  have hin12 : ∀ w ∈ u_ws RX12 TX12 58, w ∈ wsX12_bigSign := fun w h => List.mem_cons_of_mem _ (List.mem_append_right _ (h))
  subst hsz
  have hD := hD0.self (sz := s.heap.size)
  generalize hAe : va_A (mw_w om R C z A) s.heap.size = Ad at hD ⊢
  have hA : ∀ q : Nat, s.heap.size ≤ q → Ad q := fun q h => by rw [← hAe]; exact Or.inr h
  have hS : va_S Ad s.heap s.heap [] := va_S.rf
  have hl := lv_entry ([.ref om, .int (hz_i y1)]) (n := 2) (Nat.le_of_ble_eq_true rfl)
  rw [lg_entry_eq]
  generalize (lg_sl ([.ref om, .int (hz_i y1)]) ++ List.replicate (2 - (lg_sl ([.ref om, .int (hz_i y1)])).length) Slot.unset).toArray = ls at hl ⊢
  have hl : lv_has ls 2 [(0, .ref om), (1, .int (hz_i y1))] := hl
  refine mw_Q (fun QQ hQQ => ?_)
  have hP0 := hP; have hD0 := hD; have hS0 := hS; have hl0 := hl; have hw0 := hw
  clear hP hD hS hl hw
  have L27 : ∀ (t0 : Int), wp_bigSign_27 z A t0  Q → ∀ (H : Heap) (locs : List Loc) (ls : Array Slot), va_P D vwCl (mw_w om R C z A) H → va_D Ad (mw_w om R C z A) → va_S Ad s.heap H locs → lv_has ls 2 [(0, .ref om)] → W p l e (headSpec wsX12_bigSign ({ frames := 0, cells := 0, slots := 0, locals := 0 } : Room)).room s m (List.toArray [.ref om, .int (hz_i y1)]) below meth c H locs 0 0 QQ (F0 m 27 ls [.int (hz_i t0)]) := by
    intro t0 hw H locs ls hP hD hS hl
    subst hQQ
    subst hAe
    exact W.iret (v := hz_i t0) hx hb hr (fun t ht hW => ⟨⟨hz_i t0, (t0, z, A), rfl, ⟨rfl, hw⟩, by rw [ht]; exact hP, va_K.moved hW.alike hK, hD⟩, hS.F ht⟩) hS.2.2 dX12_bigSign_27
  have hP := hP0; have hD := hD0; have hS := hS0; have hl := hl0; have hw := hw0
  obtain ⟨H, hH⟩ : ∃ H : Heap, H = s.heap := ⟨_, rfl⟩
  obtain ⟨locs, hlocs⟩ : ∃ L : List Loc, L = [] := ⟨_, rfl⟩
  rw [← hH] at hP
  have hS : va_S Ad s.heap H locs := by rw [hH, hlocs]; exact hS
  refine mw_HL hH hlocs ?_
  refine lv_aload_n hx hb dX12_bigSign_0 rfl (lv_at hl 0 rfl) ?_
  refine mw_get (v := .ref (R 1)) hx hb hts hin12 hown hK hP 1 (by decide) (hts (.fieldLink RX12 18 "HiddenMovesModel" "lengths" "[I") (List.mem_cons_of_mem _ (List.mem_append_left _ (List.mem_of_getElem? (i := 0) rfl)))) (fun _ h9 => h9) rfl dX12_bigSign_1 ?_
  refine lv_iload_n hx hb dX12_bigSign_4 rfl (lv_at hl 1 rfl) ?_
  obtain ⟨h9i, hw⟩ := hw
  refine mw_ild (k := 1) (n := 4250) (i := y1) hx hb hK hP 2 1 rfl rfl h9i (by decide) dX12_bigSign_5 ?_
  obtain ⟨h9a, hw⟩ := hw
  refine hz_if_ne (tgt := 13) hx hb dX12_bigSign_6 (by decide) h9a (fun c_1 => ?_) (fun c_1 => ?_)
  · have hw := hw.1 c_1
    refine lv_aload_n hx hb dX12_bigSign_13 rfl (lv_at hl 0 rfl) ?_
    refine mw_get (v := .ref (R 2)) hx hb hts hin12 hown hK hP 2 (by decide) (hts (.fieldLink RX12 4 "HiddenMovesModel" "minus" "[Z") (List.mem_cons_of_mem _ (List.mem_append_left _ (List.mem_of_getElem? (i := 1) rfl)))) (fun _ h9 => h9) rfl dX12_bigSign_14 ?_
    refine lv_iload_n hx hb dX12_bigSign_17 rfl (lv_at hl 1 rfl) ?_
    obtain ⟨h9i, hw⟩ := hw
    refine mw_zld (k := 2) (n := 4250) (i := y1) hx hb hK hP 3 2 rfl rfl h9i (by decide) dX12_bigSign_18 ?_
    obtain ⟨h9a, hw⟩ := hw
    refine hz_if_eq (tgt := 26) hx hb dX12_bigSign_19 (by decide) h9a (fun c_2 => ?_) (fun c_2 => ?_)
    · have hw := hw.1 c_2
      refine lv_iconst (v := hz_i 1) hx hb dX12_bigSign_26 (by decide +kernel) ?_
      exact L27 1 hw H locs ls hP hD hS (lv_sub hl [0] rfl)
    · have hw := hw.2 c_2
      refine lv_iconst (v := hz_i (-1)) hx hb dX12_bigSign_22 (by decide +kernel) ?_
      refine lv_goto (tgt := 27) hx hb dX12_bigSign_23 (by decide) ?_
      exact L27 (-1) hw H locs ls hP hD hS (lv_sub hl [0] rfl)
  · have hw := hw.2 c_1
    refine lv_iconst (v := hz_i 0) hx hb dX12_bigSign_9 (by decide +kernel) ?_
    refine lv_goto (tgt := 27) hx hb dX12_bigSign_10 (by decide) ?_
    exact L27 0 hw H locs ls hP hD hS (lv_sub hl [0] rfl)

noncomputable def wp_bigIsOne_28 (z : Nat → Int) (A : Nat → Nat → Int) (t0 : Int) (Q : Int → Prop) : Prop := (t0 = 0 ∨ t0 = 1) ∧ Q t0
noncomputable def wp_bigIsOne_27 (z : Nat → Int) (A : Nat → Nat → Int) (Q : Int → Prop) : Prop := wp_bigIsOne_28 z A 0  Q
noncomputable def wp_bigIsOne (z : Nat → Int) (A : Nat → Nat → Int) (y1 : Int) (Q : Int → Prop) : Prop := (0 ≤ y1 ∧ y1 < 4250) ∧ hz_rI (A 1 (y1.toNat)) ∧ ((¬ A 1 (y1.toNat) = 1 → wp_bigIsOne_27 z A  Q) ∧ (A 1 (y1.toNat) = 1 → wp_from z A y1 (fun r_2 => (0 ≤ r_2 ∧ r_2 < 553480) ∧ hz_rI (A 0 (r_2.toNat)) ∧ ((¬ A 0 (r_2.toNat) = 1 → wp_bigIsOne_27 z A  Q) ∧ (A 0 (r_2.toNat) = 1 → wp_bigIsOne_28 z A 1  Q)))))
set_option maxHeartbeats 4000000 in
set_option maxRecDepth 100000 in
theorem k_bigIsOne (l : Launch) (D : va_G) (sz : Nat) (om : Nat) (R : Nat → Nat) (C : Nat → ClassId) (z : Nat → Int) (A : Nat → Nat → Int) (y1 : Int) (Q : Int → Prop) (hw : wp_bigIsOne z A y1 Q) : Met l yX12_bigIsOne wsX12_bigIsOne ({ frames := 1, cells := 0, slots := 0, locals := 20 } : Room) (va_Pc [.ref om, .int (hz_i y1)] (hm_P D (mw_w om R C z A) (mw_t C) sz)) (va_Qi (S := Int × (Nat → Int) × (Nat → Nat → Int)) (fun r u => r = hz_i u.1 ∧ Q u.1) (fun u t => hm_B D (va_A (mw_w om R C z A) sz) (mw_w om R C z A) (mw_t C) t) (va_A (mw_w om R C z A) sz)) 0 0 (va_A (mw_w om R C z A) sz) := by
  refine Met.ofW (cc := cX12_bigIsOne) (maxL := 2) (ret := (some .boolean)) (by decide) rfl ?_
  intro p e s m args below meth c s₁ B hml hv
  obtain ⟨rfl, hsz, hP, hK, hD0, hE⟩ := hv
  have hx := B.exec
  have hb := B.bytes
  have hr := B.returns
  have hts := atoms_spec (ws := wsX12_bigIsOne) B.pre
  have hown : s.vm.findClass RX12 = some m.cls := findClass_of_methodNamed B.named
  have hlocks := B.notSynchronized
  have hin12 : ∀ w ∈ u_ws RX12 TX12 58, w ∈ wsX12_bigIsOne := fun w h => List.mem_cons_of_mem _ (List.mem_append_right _ (h))
  subst hsz
  have hD := hD0.self (sz := s.heap.size)
  generalize hAe : va_A (mw_w om R C z A) s.heap.size = Ad at hD ⊢
  have hA : ∀ q : Nat, s.heap.size ≤ q → Ad q := fun q h => by rw [← hAe]; exact Or.inr h
  have hS : va_S Ad s.heap s.heap [] := va_S.rf
  have hl := lv_entry ([.ref om, .int (hz_i y1)]) (n := 2) (Nat.le_of_ble_eq_true rfl)
  rw [lg_entry_eq]
  generalize (lg_sl ([.ref om, .int (hz_i y1)]) ++ List.replicate (2 - (lg_sl ([.ref om, .int (hz_i y1)])).length) Slot.unset).toArray = ls at hl ⊢
  have hl : lv_has ls 2 [(0, .ref om), (1, .int (hz_i y1))] := hl
  refine mw_Q (fun QQ hQQ => ?_)
  have hP0 := hP; have hD0 := hD; have hS0 := hS; have hl0 := hl; have hw0 := hw
  clear hP hD hS hl hw
  have L28 : ∀ (t0 : Int), wp_bigIsOne_28 z A t0  Q → ∀ (H : Heap) (locs : List Loc) (ls : Array Slot), va_P D vwCl (mw_w om R C z A) H → va_D Ad (mw_w om R C z A) → va_S Ad s.heap H locs → lv_has ls 2 [(0, .ref om)] → W p l e (headSpec wsX12_bigIsOne ({ frames := 1, cells := 0, slots := 0, locals := 20 } : Room)).room s m (List.toArray [.ref om, .int (hz_i y1)]) below meth c H locs 0 0 QQ (F0 m 28 ls [.int (hz_i t0)]) := by
    intro t0 hw H locs ls hP hD hS hl
    obtain ⟨h9z, hw⟩ := hw
    subst hQQ
    subst hAe
    exact W.zret (v := hz_i t0) hx hb hr (hz_tZ h9z) (fun t ht hW => ⟨⟨hz_i t0, (t0, z, A), rfl, ⟨rfl, hw⟩, by rw [ht]; exact hP, va_K.moved hW.alike hK, hD⟩, hS.F ht⟩) hS.2.2 dX12_bigIsOne_28
  have L27 : wp_bigIsOne_27 z A  Q → ∀ (H : Heap) (locs : List Loc) (ls : Array Slot), va_P D vwCl (mw_w om R C z A) H → va_D Ad (mw_w om R C z A) → va_S Ad s.heap H locs → lv_has ls 2 [(0, .ref om)] → W p l e (headSpec wsX12_bigIsOne ({ frames := 1, cells := 0, slots := 0, locals := 20 } : Room)).room s m (List.toArray [.ref om, .int (hz_i y1)]) below meth c H locs 0 0 QQ (F0 m 27 ls []) := by
    intro  hw H locs ls hP hD hS hl
    refine lv_iconst (v := hz_i 0) hx hb dX12_bigIsOne_27 (by decide +kernel) ?_
    exact L28 0 hw H locs ls hP hD hS (lv_sub hl [0] rfl)
  have hP := hP0; have hD := hD0; have hS := hS0; have hl := hl0; have hw := hw0
  obtain ⟨H, hH⟩ : ∃ H : Heap, H = s.heap := ⟨_, rfl⟩
  obtain ⟨locs, hlocs⟩ : ∃ L : List Loc, L = [] := ⟨_, rfl⟩
  rw [← hH] at hP
  have hS : va_S Ad s.heap H locs := by rw [hH, hlocs]; exact hS
  refine mw_HL hH hlocs ?_
  refine lv_aload_n hx hb dX12_bigIsOne_0 rfl (lv_at hl 0 rfl) ?_
  refine mw_get (v := .ref (R 1)) hx hb hts hin12 hown hK hP 1 (by decide) (hts (.fieldLink RX12 18 "HiddenMovesModel" "lengths" "[I") (List.mem_cons_of_mem _ (List.mem_append_left _ (List.mem_of_getElem? (i := 0) rfl)))) (fun _ h9 => h9) rfl dX12_bigIsOne_1 ?_
  refine lv_iload_n hx hb dX12_bigIsOne_4 rfl (lv_at hl 1 rfl) ?_
  obtain ⟨h9i, hw⟩ := hw
  refine mw_ild (k := 1) (n := 4250) (i := y1) hx hb hK hP 2 1 rfl rfl h9i (by decide) dX12_bigIsOne_5 ?_
  refine lv_iconst (v := hz_i 1) hx hb dX12_bigIsOne_6 (by decide +kernel) ?_
  obtain ⟨h9a, hw⟩ := hw
  refine hz_icmp_ne (tgt := 27) hx hb dX12_bigIsOne_7 (by decide) h9a ⟨by decide, by decide⟩ (fun c_1 => ?_) (fun c_1 => ?_)
  · have hw := hw.1 c_1
    exact L27  hw H locs ls hP hD hS (lv_sub hl [0] rfl)
  · have hw := hw.2 c_1
    refine lv_aload_n hx hb dX12_bigIsOne_10 rfl (lv_at hl 0 rfl) ?_
    refine mw_get (v := .ref (R 0)) hx hb hts hin12 hown hK hP 0 (by decide) (hts (.fieldLink RX12 8 "HiddenMovesModel" "parts" "[I") (List.mem_cons_of_mem _ (List.mem_append_left _ (List.mem_of_getElem? (i := 1) rfl)))) (fun _ h9 => h9) rfl dX12_bigIsOne_11 ?_
    refine lv_iload_n hx hb dX12_bigIsOne_14 rfl (lv_at hl 1 rfl) ?_
    have hFc := mw_free hD hS hA
    refine va_calli (va_runS (As := [.int (hz_i y1)]) (rest := [.ref (R 0)]) ⟨hx, hb, hml, hown, hts⟩ (k_from l D _ om R C z A y1 _ hw) (va_cwS 1 hts gX12_bigIsOne_X12_from rfl rfl rfl (by decide +kernel) ⟨Nat.le_of_ble_eq_true rfl, Nat.le_of_ble_eq_true rfl⟩) ⟨hm_blind, hm_pre hP hK hD hE⟩ rfl rfl hl.1 rfl (lv_room (Nat.le_of_ble_eq_true rfl)) dX12_bigIsOne_15 ⟨Nat.le_of_ble_eq_true rfl, Nat.le_of_ble_eq_true rfl⟩) hS (fun q _ h => hFc q h) hFc (fun rv u t H1 locs ht hvm hw hB hz1 hk1 hS => ?_)
    obtain ⟨r_2, _, _⟩ := u
    obtain ⟨hP, hK1, hD1⟩ := hB
    rw [ht] at hP
    obtain ⟨hrv, hw⟩ := hw
    subst hrv
    have hD := hD1.weaken (fun k q _ h => hFc q.1 h)
    have hP : va_P D vwCl (mw_w om R C z A) H1 := hP
    have hD : va_D Ad (mw_w om R C z A) := hD
    generalize H1 = H at hP hS ⊢
    refine W.eq (g2 := F0 m 18 ls [.int (hz_i r_2), .ref (R 0)]) rfl ?_
    obtain ⟨h9i, hw⟩ := hw
    refine mw_ild (k := 0) (n := 553480) (i := r_2) hx hb hK hP 1 0 rfl rfl h9i (by decide) dX12_bigIsOne_18 ?_
    refine lv_iconst (v := hz_i 1) hx hb dX12_bigIsOne_19 (by decide +kernel) ?_
    obtain ⟨h9a, hw⟩ := hw
    refine hz_icmp_ne (tgt := 27) hx hb dX12_bigIsOne_20 (by decide) h9a ⟨by decide, by decide⟩ (fun c_3 => ?_) (fun c_3 => ?_)
    · have hw := hw.1 c_3
      exact L27  hw H locs ls hP hD hS (lv_sub hl [0] rfl)
    · have hw := hw.2 c_3
      refine lv_iconst (v := hz_i 1) hx hb dX12_bigIsOne_23 (by decide +kernel) ?_
      refine lv_goto (tgt := 28) hx hb dX12_bigIsOne_24 (by decide) ?_
      exact L28 1 hw H locs ls hP hD hS (lv_sub hl [0] rfl)

noncomputable def wp_bigAt_25 (z : Nat → Int) (A : Nat → Nat → Int) (t0 : Int) (Q : Int → Prop) : Prop := Q t0
noncomputable def wp_bigAt (z : Nat → Int) (A : Nat → Nat → Int) (y1 : Int) (y2 : Int) (Q : Int → Prop) : Prop := (0 ≤ y1 ∧ y1 < 4250) ∧ hz_rI y2 ∧ hz_rI (A 1 (y1.toNat)) ∧ ((A 1 (y1.toNat) ≤ y2 → wp_bigAt_25 z A 0  Q) ∧ (¬ (A 1 (y1.toNat) ≤ y2) → wp_from z A y1 (fun r_2 => (0 ≤ r_2 + y2 ∧ r_2 + y2 < 553480) ∧ wp_bigAt_25 z A (A 0 ((r_2 + y2).toNat))  Q)))
set_option maxHeartbeats 4000000 in
set_option maxRecDepth 100000 in
theorem k_bigAt (l : Launch) (D : va_G) (sz : Nat) (om : Nat) (R : Nat → Nat) (C : Nat → ClassId) (z : Nat → Int) (A : Nat → Nat → Int) (y1 : Int) (y2 : Int) (Q : Int → Prop) (hw : wp_bigAt z A y1 y2 Q) : Met l yX12_bigAt wsX12_bigAt ({ frames := 1, cells := 0, slots := 0, locals := 20 } : Room) (va_Pc [.ref om, .int (hz_i y1), .int (hz_i y2)] (hm_P D (mw_w om R C z A) (mw_t C) sz)) (va_Qi (S := Int × (Nat → Int) × (Nat → Nat → Int)) (fun r u => r = hz_i u.1 ∧ Q u.1) (fun u t => hm_B D (va_A (mw_w om R C z A) sz) (mw_w om R C z A) (mw_t C) t) (va_A (mw_w om R C z A) sz)) 0 0 (va_A (mw_w om R C z A) sz) := by
  refine Met.ofW (cc := cX12_bigAt) (maxL := 3) (ret := (some .int)) (by decide) rfl ?_
  intro p e s m args below meth c s₁ B hml hv
  obtain ⟨rfl, hsz, hP, hK, hD0, hE⟩ := hv
  have hx := B.exec
  have hb := B.bytes
  have hr := B.returns
  have hts := atoms_spec (ws := wsX12_bigAt) B.pre
  have hown : s.vm.findClass RX12 = some m.cls := findClass_of_methodNamed B.named
  have hlocks := B.notSynchronized
  have hin12 : ∀ w ∈ u_ws RX12 TX12 58, w ∈ wsX12_bigAt := fun w h => List.mem_cons_of_mem _ (List.mem_append_right _ (h))
  subst hsz
  have hD := hD0.self (sz := s.heap.size)
  generalize hAe : va_A (mw_w om R C z A) s.heap.size = Ad at hD ⊢
  have hA : ∀ q : Nat, s.heap.size ≤ q → Ad q := fun q h => by rw [← hAe]; exact Or.inr h
  have hS : va_S Ad s.heap s.heap [] := va_S.rf
  have hl := lv_entry ([.ref om, .int (hz_i y1), .int (hz_i y2)]) (n := 3) (Nat.le_of_ble_eq_true rfl)
  rw [lg_entry_eq]
  generalize (lg_sl ([.ref om, .int (hz_i y1), .int (hz_i y2)]) ++ List.replicate (3 - (lg_sl ([.ref om, .int (hz_i y1), .int (hz_i y2)])).length) Slot.unset).toArray = ls at hl ⊢
  have hl : lv_has ls 3 [(0, .ref om), (1, .int (hz_i y1)), (2, .int (hz_i y2))] := hl
  refine mw_Q (fun QQ hQQ => ?_)
  have hP0 := hP; have hD0 := hD; have hS0 := hS; have hl0 := hl; have hw0 := hw
  clear hP hD hS hl hw
  have L25 : ∀ (t0 : Int), wp_bigAt_25 z A t0  Q → ∀ (H : Heap) (locs : List Loc) (ls : Array Slot), va_P D vwCl (mw_w om R C z A) H → va_D Ad (mw_w om R C z A) → va_S Ad s.heap H locs → lv_has ls 3 [(0, .ref om)] → W p l e (headSpec wsX12_bigAt ({ frames := 1, cells := 0, slots := 0, locals := 20 } : Room)).room s m (List.toArray [.ref om, .int (hz_i y1), .int (hz_i y2)]) below meth c H locs 0 0 QQ (F0 m 25 ls [.int (hz_i t0)]) := by
    intro t0 hw H locs ls hP hD hS hl
    subst hQQ
    subst hAe
    exact W.iret (v := hz_i t0) hx hb hr (fun t ht hW => ⟨⟨hz_i t0, (t0, z, A), rfl, ⟨rfl, hw⟩, by rw [ht]; exact hP, va_K.moved hW.alike hK, hD⟩, hS.F ht⟩) hS.2.2 dX12_bigAt_25
  have hP := hP0; have hD := hD0; have hS := hS0; have hl := hl0; have hw := hw0
  obtain ⟨H, hH⟩ : ∃ H : Heap, H = s.heap := ⟨_, rfl⟩
  obtain ⟨locs, hlocs⟩ : ∃ L : List Loc, L = [] := ⟨_, rfl⟩
  rw [← hH] at hP
  have hS : va_S Ad s.heap H locs := by rw [hH, hlocs]; exact hS
  refine mw_HL hH hlocs ?_
  refine lv_iload_n hx hb dX12_bigAt_0 rfl (lv_at hl 2 rfl) ?_
  refine lv_aload_n hx hb dX12_bigAt_1 rfl (lv_at hl 0 rfl) ?_
  refine mw_get (v := .ref (R 1)) hx hb hts hin12 hown hK hP 1 (by decide) (hts (.fieldLink RX12 18 "HiddenMovesModel" "lengths" "[I") (List.mem_cons_of_mem _ (List.mem_append_left _ (List.mem_of_getElem? (i := 0) rfl)))) (fun _ h9 => h9) rfl dX12_bigAt_2 ?_
  refine lv_iload_n hx hb dX12_bigAt_5 rfl (lv_at hl 1 rfl) ?_
  obtain ⟨h9i, hw⟩ := hw
  refine mw_ild (k := 1) (n := 4250) (i := y1) hx hb hK hP 2 1 rfl rfl h9i (by decide) dX12_bigAt_6 ?_
  obtain ⟨h9a, hw⟩ := hw
  obtain ⟨h9b, hw⟩ := hw
  refine hz_icmp_ge (tgt := 24) hx hb dX12_bigAt_7 (by decide) h9a h9b (fun c_1 => ?_) (fun c_1 => ?_)
  · have hw := hw.1 c_1
    refine lv_iconst (v := hz_i 0) hx hb dX12_bigAt_24 (by decide +kernel) ?_
    exact L25 0 hw H locs ls hP hD hS (lv_sub hl [0] rfl)
  · have hw := hw.2 c_1
    refine lv_aload_n hx hb dX12_bigAt_10 rfl (lv_at hl 0 rfl) ?_
    refine mw_get (v := .ref (R 0)) hx hb hts hin12 hown hK hP 0 (by decide) (hts (.fieldLink RX12 8 "HiddenMovesModel" "parts" "[I") (List.mem_cons_of_mem _ (List.mem_append_left _ (List.mem_of_getElem? (i := 1) rfl)))) (fun _ h9 => h9) rfl dX12_bigAt_11 ?_
    refine lv_iload_n hx hb dX12_bigAt_14 rfl (lv_at hl 1 rfl) ?_
    have hFc := mw_free hD hS hA
    refine va_calli (va_runS (As := [.int (hz_i y1)]) (rest := [.ref (R 0)]) ⟨hx, hb, hml, hown, hts⟩ (k_from l D _ om R C z A y1 _ hw) (va_cwS 1 hts gX12_bigAt_X12_from rfl rfl rfl (by decide +kernel) ⟨Nat.le_of_ble_eq_true rfl, Nat.le_of_ble_eq_true rfl⟩) ⟨hm_blind, hm_pre hP hK hD hE⟩ rfl rfl hl.1 rfl (lv_room (Nat.le_of_ble_eq_true rfl)) dX12_bigAt_15 ⟨Nat.le_of_ble_eq_true rfl, Nat.le_of_ble_eq_true rfl⟩) hS (fun q _ h => hFc q h) hFc (fun rv u t H1 locs ht hvm hw hB hz1 hk1 hS => ?_)
    obtain ⟨r_2, _, _⟩ := u
    obtain ⟨hP, hK1, hD1⟩ := hB
    rw [ht] at hP
    obtain ⟨hrv, hw⟩ := hw
    subst hrv
    have hD := hD1.weaken (fun k q _ h => hFc q.1 h)
    have hP : va_P D vwCl (mw_w om R C z A) H1 := hP
    have hD : va_D Ad (mw_w om R C z A) := hD
    generalize H1 = H at hP hS ⊢
    refine W.eq (g2 := F0 m 18 ls [.int (hz_i r_2), .ref (R 0)]) rfl ?_
    refine lv_iload_n hx hb dX12_bigAt_18 rfl (lv_at hl 2 rfl) ?_
    refine hz_iadd hx hb dX12_bigAt_19 ?_
    obtain ⟨h9i, hw⟩ := hw
    refine mw_ild (k := 0) (n := 553480) (i := r_2 + y2) hx hb hK hP 1 0 rfl rfl h9i (by decide) dX12_bigAt_20 ?_
    refine lv_goto (tgt := 25) hx hb dX12_bigAt_21 (by decide) ?_
    exact L25 (A 0 ((r_2 + y2).toNat)) hw H locs ls hP hD hS (lv_sub hl [0] rfl)

noncomputable def wp_bigTrim_43 (z : Nat → Int) (A : Nat → Nat → Int) (Q : (Nat → Nat → Int) → Prop) : Prop := Q A
noncomputable def wp_bigTrim_0 (z : Nat → Int) (A : Nat → Nat → Int) (y1 : Int) (Q : (Nat → Nat → Int) → Prop) : Prop := ∀ P0 : (Nat → Nat → Int) → Prop, (∀ (A : Nat → Nat → Int), (0 ≤ y1 ∧ y1 < 4250) ∧ hz_rI (A 1 (y1.toNat)) ∧ ((A 1 (y1.toNat) ≤ 0 → wp_bigTrim_43 z A  Q) ∧ (¬ (A 1 (y1.toNat) ≤ 0) → wp_from z A y1 (fun r_2 => (0 ≤ y1 ∧ y1 < 4250) ∧ (0 ≤ (r_2 + (A 1 (y1.toNat))) - 1 ∧ (r_2 + (A 1 (y1.toNat))) - 1 < 553480) ∧ hz_rI (A 0 (((r_2 + (A 1 (y1.toNat))) - 1).toNat)) ∧ ((¬ A 0 (((r_2 + (A 1 (y1.toNat))) - 1).toNat) = 0 → wp_bigTrim_43 z A  Q) ∧ (A 0 (((r_2 + (A 1 (y1.toNat))) - 1).toNat) = 0 → (0 ≤ y1 ∧ y1 < 4250) ∧ (0 ≤ y1 ∧ y1 < 4250) ∧ ∀ A_4 : Nat → Nat → Int, A_4 = hz_s A 1 y1 ((A 1 (y1.toNat)) - 1) → P0 A_4))))) → P0 A) → P0 A
noncomputable def wp_bigTrim (z : Nat → Int) (A : Nat → Nat → Int) (y1 : Int) (Q : (Nat → Nat → Int) → Prop) : Prop := wp_bigTrim_0 z A y1  Q
set_option maxHeartbeats 4000000 in
set_option maxRecDepth 100000 in
theorem k_bigTrim (l : Launch) (D : va_G) (sz : Nat) (om : Nat) (R : Nat → Nat) (C : Nat → ClassId) (z : Nat → Int) (A : Nat → Nat → Int) (y1 : Int) (Q : (Nat → Nat → Int) → Prop) (hw : wp_bigTrim z A y1 Q) : Met l yX12_bigTrim wsX12_bigTrim ({ frames := 1, cells := 0, slots := 0, locals := 20 } : Room) (va_Pc [.ref om, .int (hz_i y1)] (hm_P D (mw_w om R C z A) (mw_t C) sz)) (va_Qv (S := Int × (Nat → Int) × (Nat → Nat → Int)) (fun u => Q u.2.2) (fun u t => hm_B D (va_A (mw_w om R C z A) sz) (mw_w om R C z u.2.2) (mw_t C) t) (va_A (mw_w om R C z A) sz)) 0 0 (va_A (mw_w om R C z A) sz) := by
  refine Met.ofW (cc := cX12_bigTrim) (maxL := 2) (ret := none) (by decide) rfl ?_
  intro p e s m args below meth c s₁ B hml hv
  obtain ⟨rfl, hsz, hP, hK, hD0, hE⟩ := hv
  have hx := B.exec
  have hb := B.bytes
  have hr := B.returns
  have hts := atoms_spec (ws := wsX12_bigTrim) B.pre
  have hown : s.vm.findClass RX12 = some m.cls := findClass_of_methodNamed B.named
  have hlocks := B.notSynchronized
  have hin12 : ∀ w ∈ u_ws RX12 TX12 58, w ∈ wsX12_bigTrim := fun w h => List.mem_cons_of_mem _ (List.mem_append_right _ (h))
  subst hsz
  have hD := hD0.self (sz := s.heap.size)
  generalize hAe : va_A (mw_w om R C z A) s.heap.size = Ad at hD ⊢
  have hA : ∀ q : Nat, s.heap.size ≤ q → Ad q := fun q h => by rw [← hAe]; exact Or.inr h
  have hS : va_S Ad s.heap s.heap [] := va_S.rf
  have hl := lv_entry ([.ref om, .int (hz_i y1)]) (n := 2) (Nat.le_of_ble_eq_true rfl)
  rw [lg_entry_eq]
  generalize (lg_sl ([.ref om, .int (hz_i y1)]) ++ List.replicate (2 - (lg_sl ([.ref om, .int (hz_i y1)])).length) Slot.unset).toArray = ls at hl ⊢
  have hl : lv_has ls 2 [(0, .ref om), (1, .int (hz_i y1))] := hl
  refine mw_Q (fun QQ hQQ => ?_)
  have hP0 := hP; have hD0 := hD; have hS0 := hS; have hl0 := hl; have hw0 := hw
  clear hP hD hS hl hw
  have L43 : ∀ (A : Nat → Nat → Int), wp_bigTrim_43 z A  Q → ∀ (H : Heap) (locs : List Loc) (ls : Array Slot), va_P D vwCl (mw_w om R C z A) H → va_D Ad (mw_w om R C z A) → va_S Ad s.heap H locs → lv_has ls 2 [(0, .ref om)] → W p l e (headSpec wsX12_bigTrim ({ frames := 1, cells := 0, slots := 0, locals := 20 } : Room)).room s m (List.toArray [.ref om, .int (hz_i y1)]) below meth c H locs 0 0 QQ (F0 m 43 ls []) := by
    intro A hw H locs ls hP hD hS hl
    subst hQQ
    subst hAe
    exact W.vret hx hb hr (fun t ht hW => ⟨⟨(0, z, A), rfl, hw, by rw [ht]; exact hP, va_K.moved hW.alike hK, hD⟩, hS.F ht⟩) hS.2.2 dX12_bigTrim_43
  have L0 : ∀ (A : Nat → Nat → Int), wp_bigTrim_0 z A y1  Q → ∀ (H : Heap) (locs : List Loc) (ls : Array Slot), va_P D vwCl (mw_w om R C z A) H → va_D Ad (mw_w om R C z A) → va_S Ad s.heap H locs → lv_has ls 2 [(0, .ref om), (1, .int (hz_i y1))] → W p l e (headSpec wsX12_bigTrim ({ frames := 1, cells := 0, slots := 0, locals := 20 } : Room)).room s m (List.toArray [.ref om, .int (hz_i y1)]) below meth c H locs 0 0 QQ (F0 m 0 ls []) := by
    intro A hw
    obtain ⟨P0, hP0⟩ : ∃ P : (Nat → Nat → Int) → Prop, ∀ (A : Nat → Nat → Int), P A ↔ (∀ (H : Heap) (locs : List Loc) (ls : Array Slot), va_P D vwCl (mw_w om R C z A) H → va_D Ad (mw_w om R C z A) → va_S Ad s.heap H locs → lv_has ls 2 [(0, .ref om), (1, .int (hz_i y1))] → W p l e (headSpec wsX12_bigTrim ({ frames := 1, cells := 0, slots := 0, locals := 20 } : Room)).room s m (List.toArray [.ref om, .int (hz_i y1)]) below meth c H locs 0 0 QQ (F0 m 0 ls [])) := ⟨fun (A : Nat → Nat → Int) => ∀ (H : Heap) (locs : List Loc) (ls : Array Slot), va_P D vwCl (mw_w om R C z A) H → va_D Ad (mw_w om R C z A) → va_S Ad s.heap H locs → lv_has ls 2 [(0, .ref om), (1, .int (hz_i y1))] → W p l e (headSpec wsX12_bigTrim ({ frames := 1, cells := 0, slots := 0, locals := 20 } : Room)).room s m (List.toArray [.ref om, .int (hz_i y1)]) below meth c H locs 0 0 QQ (F0 m 0 ls []), fun _ => Iff.rfl⟩
    refine (hP0 A).mp (hw P0 ?_)
    intro A hw
    refine (hP0 A).mpr ?_
    intro H locs ls hP hD hS hl
    refine lv_aload_n hx hb dX12_bigTrim_0 rfl (lv_at hl 0 rfl) ?_
    refine mw_get (v := .ref (R 1)) hx hb hts hin12 hown hK hP 1 (by decide) (hts (.fieldLink RX12 18 "HiddenMovesModel" "lengths" "[I") (List.mem_cons_of_mem _ (List.mem_append_left _ (List.mem_of_getElem? (i := 0) rfl)))) (fun _ h9 => h9) rfl dX12_bigTrim_1 ?_
    refine lv_iload_n hx hb dX12_bigTrim_4 rfl (lv_at hl 1 rfl) ?_
    obtain ⟨h9i, hw⟩ := hw
    refine mw_ild (k := 1) (n := 4250) (i := y1) hx hb hK hP 2 1 rfl rfl h9i (by decide) dX12_bigTrim_5 ?_
    obtain ⟨h9a, hw⟩ := hw
    refine hz_if_le (tgt := 43) hx hb dX12_bigTrim_6 (by decide) h9a (fun c_1 => ?_) (fun c_1 => ?_)
    · have hw := hw.1 c_1
      exact L43 A hw H locs ls hP hD hS (lv_sub hl [0] rfl)
    · have hw := hw.2 c_1
      refine lv_aload_n hx hb dX12_bigTrim_9 rfl (lv_at hl 0 rfl) ?_
      refine mw_get (v := .ref (R 0)) hx hb hts hin12 hown hK hP 0 (by decide) (hts (.fieldLink RX12 8 "HiddenMovesModel" "parts" "[I") (List.mem_cons_of_mem _ (List.mem_append_left _ (List.mem_of_getElem? (i := 1) rfl)))) (fun _ h9 => h9) rfl dX12_bigTrim_10 ?_
      refine lv_iload_n hx hb dX12_bigTrim_13 rfl (lv_at hl 1 rfl) ?_
      have hFc := mw_free hD hS hA
      refine va_calli (va_runS (As := [.int (hz_i y1)]) (rest := [.ref (R 0)]) ⟨hx, hb, hml, hown, hts⟩ (k_from l D _ om R C z A y1 _ hw) (va_cwS 1 hts gX12_bigTrim_X12_from rfl rfl rfl (by decide +kernel) ⟨Nat.le_of_ble_eq_true rfl, Nat.le_of_ble_eq_true rfl⟩) ⟨hm_blind, hm_pre hP hK hD hE⟩ rfl rfl hl.1 rfl (lv_room (Nat.le_of_ble_eq_true rfl)) dX12_bigTrim_14 ⟨Nat.le_of_ble_eq_true rfl, Nat.le_of_ble_eq_true rfl⟩) hS (fun q _ h => hFc q h) hFc (fun rv u t H1 locs ht hvm hw hB hz1 hk1 hS => ?_)
      obtain ⟨r_2, _, _⟩ := u
      obtain ⟨hP, hK1, hD1⟩ := hB
      rw [ht] at hP
      obtain ⟨hrv, hw⟩ := hw
      subst hrv
      have hD := hD1.weaken (fun k q _ h => hFc q.1 h)
      have hP : va_P D vwCl (mw_w om R C z A) H1 := hP
      have hD : va_D Ad (mw_w om R C z A) := hD
      generalize H1 = H at hP hS ⊢
      refine W.eq (g2 := F0 m 17 ls [.int (hz_i r_2), .ref (R 0)]) rfl ?_
      refine lv_aload_n hx hb dX12_bigTrim_17 rfl (lv_at hl 0 rfl) ?_
      refine mw_get (v := .ref (R 1)) hx hb hts hin12 hown hK hP 1 (by decide) (hts (.fieldLink RX12 18 "HiddenMovesModel" "lengths" "[I") (List.mem_cons_of_mem _ (List.mem_append_left _ (List.mem_of_getElem? (i := 0) rfl)))) (fun _ h9 => h9) rfl dX12_bigTrim_18 ?_
      refine lv_iload_n hx hb dX12_bigTrim_21 rfl (lv_at hl 1 rfl) ?_
      obtain ⟨h9i, hw⟩ := hw
      refine mw_ild (k := 1) (n := 4250) (i := y1) hx hb hK hP 2 1 rfl rfl h9i (by decide) dX12_bigTrim_22 ?_
      refine hz_iadd hx hb dX12_bigTrim_23 ?_
      refine lv_iconst (v := hz_i 1) hx hb dX12_bigTrim_24 (by decide +kernel) ?_
      refine hz_isub hx hb dX12_bigTrim_25 ?_
      obtain ⟨h9i, hw⟩ := hw
      refine mw_ild (k := 0) (n := 553480) (i := (r_2 + (A 1 (y1.toNat))) - 1) hx hb hK hP 1 0 rfl rfl h9i (by decide) dX12_bigTrim_26 ?_
      obtain ⟨h9a, hw⟩ := hw
      refine hz_if_ne (tgt := 43) hx hb dX12_bigTrim_27 (by decide) h9a (fun c_3 => ?_) (fun c_3 => ?_)
      · have hw := hw.1 c_3
        exact L43 A hw H locs ls hP hD hS (lv_sub hl [0] rfl)
      · have hw := hw.2 c_3
        refine lv_aload_n hx hb dX12_bigTrim_30 rfl (lv_at hl 0 rfl) ?_
        refine mw_get (v := .ref (R 1)) hx hb hts hin12 hown hK hP 1 (by decide) (hts (.fieldLink RX12 18 "HiddenMovesModel" "lengths" "[I") (List.mem_cons_of_mem _ (List.mem_append_left _ (List.mem_of_getElem? (i := 0) rfl)))) (fun _ h9 => h9) rfl dX12_bigTrim_31 ?_
        refine lv_iload_n hx hb dX12_bigTrim_34 rfl (lv_at hl 1 rfl) ?_
        refine lv_dup2_11 hx hb dX12_bigTrim_35 rfl rfl ?_
        obtain ⟨h9i, hw⟩ := hw
        refine mw_ild (k := 1) (n := 4250) (i := y1) hx hb hK hP 2 1 rfl rfl h9i (by decide) dX12_bigTrim_36 ?_
        refine lv_iconst (v := hz_i 1) hx hb dX12_bigTrim_37 (by decide +kernel) ?_
        refine hz_isub hx hb dX12_bigTrim_38 ?_
        obtain ⟨h9i, hw⟩ := hw
        refine mw_ist (k := 1) (n := 4250) (i := y1) (v := (A 1 (y1.toNat)) - 1) hx hb hK hP hD hS 2 1 rfl rfl (mw_a1 om R C z A) h9i (by decide) dX12_bigTrim_39 (fun H locs hP hD hS => ?_)
        obtain ⟨A_4, hA_4⟩ : ∃ y : Nat → Nat → Int, y = hz_s A 1 y1 ((A 1 (y1.toNat)) - 1) := ⟨_, rfl⟩
        rw [← hA_4] at hP hD
        have hw := hw A_4 hA_4
        refine lv_goto (tgt := 0) hx hb dX12_bigTrim_40 (by decide) ?_
        exact (hP0 A_4).mp hw H locs ls hP hD hS (lv_sub hl [0, 1] rfl)
  have hP := hP0; have hD := hD0; have hS := hS0; have hl := hl0; have hw := hw0
  obtain ⟨H, hH⟩ : ∃ H : Heap, H = s.heap := ⟨_, rfl⟩
  obtain ⟨locs, hlocs⟩ : ∃ L : List Loc, L = [] := ⟨_, rfl⟩
  rw [← hH] at hP
  have hS : va_S Ad s.heap H locs := by rw [hH, hlocs]; exact hS
  refine mw_HL hH hlocs ?_
  exact L0 A hw H locs ls hP hD hS (lv_sub hl [0, 1] rfl)

noncomputable def wp_bigSizes_98 (z : Nat → Int) (A : Nat → Nat → Int) (t0 : Int) (Q : Int → Prop) : Prop := Q t0
noncomputable def wp_bigSizes_70 (z : Nat → Int) (A : Nat → Nat → Int) (y1 : Int) (y2 : Int) (x3 : Int) (Q : Int → Prop) : Prop := hz_rI x3 ∧ ((0 ≤ x3 → wp_bigAt z A y1 x3 (fun r_2 => wp_bigAt z A y2 x3 (fun r_3 => hz_rI r_2 ∧ hz_rI r_3 ∧ ((r_3 ≤ r_2 → wp_bigSizes_98 z A 1  Q) ∧ (¬ (r_3 ≤ r_2) → wp_bigSizes_98 z A (-1)  Q))))) ∧ (¬ (0 ≤ x3) → wp_bigSizes_98 z A 0  Q))
noncomputable def wp_bigSizes_45 (z : Nat → Int) (A : Nat → Nat → Int) (y1 : Int) (y2 : Int) (x3 : Int) (Q : Int → Prop) : Prop := ∀ P45 : Int → Prop, (∀ (x3 : Int), hz_rI x3 ∧ ((x3 < 0 → wp_bigSizes_70 z A y1 y2 x3  Q) ∧ (¬ (x3 < 0) → wp_bigAt z A y1 x3 (fun r_6 => wp_bigAt z A y2 x3 (fun r_7 => hz_rI r_6 ∧ hz_rI r_7 ∧ ((¬ r_6 = r_7 → wp_bigSizes_70 z A y1 y2 x3  Q) ∧ (r_6 = r_7 → ∀ x3_9 : Int, x3_9 = x3 + (-1) → P45 x3_9)))))) → P45 x3) → P45 x3
noncomputable def wp_bigSizes_35 (z : Nat → Int) (A : Nat → Nat → Int) (t0 : Int) (Q : Int → Prop) : Prop := Q t0
noncomputable def wp_bigSizes (z : Nat → Int) (A : Nat → Nat → Int) (y1 : Int) (y2 : Int) (Q : Int → Prop) : Prop := (0 ≤ y1 ∧ y1 < 4250) ∧ (0 ≤ y2 ∧ y2 < 4250) ∧ hz_rI (A 1 (y1.toNat)) ∧ hz_rI (A 1 (y2.toNat)) ∧ ((A 1 (y1.toNat) = A 1 (y2.toNat) → (0 ≤ y1 ∧ y1 < 4250) ∧ ∀ x3_11 : Int, x3_11 = (A 1 (y1.toNat)) - 1 → wp_bigSizes_45 z A y1 y2 x3_11  Q) ∧ (¬ (A 1 (y1.toNat) = A 1 (y2.toNat)) → (0 ≤ y1 ∧ y1 < 4250) ∧ (0 ≤ y2 ∧ y2 < 4250) ∧ hz_rI (A 1 (y1.toNat)) ∧ hz_rI (A 1 (y2.toNat)) ∧ ((A 1 (y2.toNat) ≤ A 1 (y1.toNat) → wp_bigSizes_35 z A 1  Q) ∧ (¬ (A 1 (y2.toNat) ≤ A 1 (y1.toNat)) → wp_bigSizes_35 z A (-1)  Q))))
set_option maxHeartbeats 4000000 in
set_option maxRecDepth 100000 in
theorem k_bigSizes (l : Launch) (D : va_G) (sz : Nat) (om : Nat) (R : Nat → Nat) (C : Nat → ClassId) (z : Nat → Int) (A : Nat → Nat → Int) (y1 : Int) (y2 : Int) (Q : Int → Prop) (hw : wp_bigSizes z A y1 y2 Q) : Met l yX12_bigSizes wsX12_bigSizes ({ frames := 2, cells := 0, slots := 0, locals := 42 } : Room) (va_Pc [.ref om, .int (hz_i y1), .int (hz_i y2)] (hm_P D (mw_w om R C z A) (mw_t C) sz)) (va_Qi (S := Int × (Nat → Int) × (Nat → Nat → Int)) (fun r u => r = hz_i u.1 ∧ Q u.1) (fun u t => hm_B D (va_A (mw_w om R C z A) sz) (mw_w om R C z A) (mw_t C) t) (va_A (mw_w om R C z A) sz)) 0 0 (va_A (mw_w om R C z A) sz) := by
  refine Met.ofW (cc := cX12_bigSizes) (maxL := 4) (ret := (some .int)) (by decide) rfl ?_
  intro p e s m args below meth c s₁ B hml hv
  obtain ⟨rfl, hsz, hP, hK, hD0, hE⟩ := hv
  have hx := B.exec
  have hb := B.bytes
  have hr := B.returns
  have hts := atoms_spec (ws := wsX12_bigSizes) B.pre
  have hown : s.vm.findClass RX12 = some m.cls := findClass_of_methodNamed B.named
  have hlocks := B.notSynchronized
  have hin12 : ∀ w ∈ u_ws RX12 TX12 58, w ∈ wsX12_bigSizes := fun w h => List.mem_cons_of_mem _ (List.mem_append_right _ (h))
  subst hsz
  have hD := hD0.self (sz := s.heap.size)
  generalize hAe : va_A (mw_w om R C z A) s.heap.size = Ad at hD ⊢
  have hA : ∀ q : Nat, s.heap.size ≤ q → Ad q := fun q h => by rw [← hAe]; exact Or.inr h
  have hS : va_S Ad s.heap s.heap [] := va_S.rf
  have hl := lv_entry ([.ref om, .int (hz_i y1), .int (hz_i y2)]) (n := 4) (Nat.le_of_ble_eq_true rfl)
  rw [lg_entry_eq]
  generalize (lg_sl ([.ref om, .int (hz_i y1), .int (hz_i y2)]) ++ List.replicate (4 - (lg_sl ([.ref om, .int (hz_i y1), .int (hz_i y2)])).length) Slot.unset).toArray = ls at hl ⊢
  have hl : lv_has ls 4 [(0, .ref om), (1, .int (hz_i y1)), (2, .int (hz_i y2))] := hl
  refine mw_Q (fun QQ hQQ => ?_)
  have hP0 := hP; have hD0 := hD; have hS0 := hS; have hl0 := hl; have hw0 := hw
  clear hP hD hS hl hw
  have L98 : ∀ (t0 : Int), wp_bigSizes_98 z A t0  Q → ∀ (H : Heap) (locs : List Loc) (ls : Array Slot), va_P D vwCl (mw_w om R C z A) H → va_D Ad (mw_w om R C z A) → va_S Ad s.heap H locs → lv_has ls 4 [(0, .ref om)] → W p l e (headSpec wsX12_bigSizes ({ frames := 2, cells := 0, slots := 0, locals := 42 } : Room)).room s m (List.toArray [.ref om, .int (hz_i y1), .int (hz_i y2)]) below meth c H locs 0 0 QQ (F0 m 98 ls [.int (hz_i t0)]) := by
    intro t0 hw H locs ls hP hD hS hl
    subst hQQ
    subst hAe
    exact W.iret (v := hz_i t0) hx hb hr (fun t ht hW => ⟨⟨hz_i t0, (t0, z, A), rfl, ⟨rfl, hw⟩, by rw [ht]; exact hP, va_K.moved hW.alike hK, hD⟩, hS.F ht⟩) hS.2.2 dX12_bigSizes_98
  have L70 : ∀ (x3 : Int), wp_bigSizes_70 z A y1 y2 x3  Q → ∀ (H : Heap) (locs : List Loc) (ls : Array Slot), va_P D vwCl (mw_w om R C z A) H → va_D Ad (mw_w om R C z A) → va_S Ad s.heap H locs → lv_has ls 4 [(0, .ref om), (1, .int (hz_i y1)), (2, .int (hz_i y2)), (3, .int (hz_i x3))] → W p l e (headSpec wsX12_bigSizes ({ frames := 2, cells := 0, slots := 0, locals := 42 } : Room)).room s m (List.toArray [.ref om, .int (hz_i y1), .int (hz_i y2)]) below meth c H locs 0 0 QQ (F0 m 70 ls []) := by
    intro x3 hw H locs ls hP hD hS hl
    refine lv_iload_n hx hb dX12_bigSizes_70 rfl (lv_at hl 3 rfl) ?_
    obtain ⟨h9a, hw⟩ := hw
    refine hz_if_ge (tgt := 78) hx hb dX12_bigSizes_71 (by decide) h9a (fun c_1 => ?_) (fun c_1 => ?_)
    · have hw := hw.1 c_1
      refine lv_aload_n hx hb dX12_bigSizes_78 rfl (lv_at hl 0 rfl) ?_
      refine lv_iload_n hx hb dX12_bigSizes_79 rfl (lv_at hl 1 rfl) ?_
      refine lv_iload_n hx hb dX12_bigSizes_80 rfl (lv_at hl 3 rfl) ?_
      have hFc := mw_free hD hS hA
      refine va_calli (va_runV (As := [.int (hz_i y1), .int (hz_i x3)]) (rest := []) ⟨hx, hb, hml, hown, hts⟩ (k_bigAt l D _ om R C z A y1 x3 _ hw) (cwV 2 hts gX12_bigSizes_X12_bigAt rfl rfl rfl (by decide +kernel) ⟨Nat.le_of_ble_eq_true rfl, Nat.le_of_ble_eq_true rfl⟩) ⟨hm_blind, va_recv hK hP (ci := 12) (q0 := 0) rfl rfl, hm_pre hP hK hD hE⟩ rfl rfl hl.1 rfl (lv_room (Nat.le_of_ble_eq_true rfl)) dX12_bigSizes_81 ⟨Nat.le_of_ble_eq_true rfl, Nat.le_of_ble_eq_true rfl⟩) hS (fun q _ h => hFc q h) hFc (fun rv u t H1 locs ht hvm hw hB hz1 hk1 hS => ?_)
      obtain ⟨r_2, _, _⟩ := u
      obtain ⟨hP, hK1, hD1⟩ := hB
      rw [ht] at hP
      obtain ⟨hrv, hw⟩ := hw
      subst hrv
      have hD := hD1.weaken (fun k q _ h => hFc q.1 h)
      have hP : va_P D vwCl (mw_w om R C z A) H1 := hP
      have hD : va_D Ad (mw_w om R C z A) := hD
      generalize H1 = H at hP hS ⊢
      refine W.eq (g2 := F0 m 84 ls [.int (hz_i r_2)]) rfl ?_
      refine lv_aload_n hx hb dX12_bigSizes_84 rfl (lv_at hl 0 rfl) ?_
      refine lv_iload_n hx hb dX12_bigSizes_85 rfl (lv_at hl 2 rfl) ?_
      refine lv_iload_n hx hb dX12_bigSizes_86 rfl (lv_at hl 3 rfl) ?_
      have hFc := mw_free hD hS hA
      refine va_calli (va_runV (As := [.int (hz_i y2), .int (hz_i x3)]) (rest := [.int (hz_i r_2)]) ⟨hx, hb, hml, hown, hts⟩ (k_bigAt l D _ om R C z A y2 x3 _ hw) (cwV 2 hts gX12_bigSizes_X12_bigAt rfl rfl rfl (by decide +kernel) ⟨Nat.le_of_ble_eq_true rfl, Nat.le_of_ble_eq_true rfl⟩) ⟨hm_blind, va_recv hK hP (ci := 12) (q0 := 0) rfl rfl, hm_pre hP hK hD hE⟩ rfl rfl hl.1 rfl (lv_room (Nat.le_of_ble_eq_true rfl)) dX12_bigSizes_87 ⟨Nat.le_of_ble_eq_true rfl, Nat.le_of_ble_eq_true rfl⟩) hS (fun q _ h => hFc q h) hFc (fun rv u t H1 locs ht hvm hw hB hz1 hk1 hS => ?_)
      obtain ⟨r_3, _, _⟩ := u
      obtain ⟨hP, hK1, hD1⟩ := hB
      rw [ht] at hP
      obtain ⟨hrv, hw⟩ := hw
      subst hrv
      have hD := hD1.weaken (fun k q _ h => hFc q.1 h)
      have hP : va_P D vwCl (mw_w om R C z A) H1 := hP
      have hD : va_D Ad (mw_w om R C z A) := hD
      generalize H1 = H at hP hS ⊢
      refine W.eq (g2 := F0 m 90 ls [.int (hz_i r_3), .int (hz_i r_2)]) rfl ?_
      obtain ⟨h9a, hw⟩ := hw
      obtain ⟨h9b, hw⟩ := hw
      refine hz_icmp_ge (tgt := 97) hx hb dX12_bigSizes_90 (by decide) h9a h9b (fun c_4 => ?_) (fun c_4 => ?_)
      · have hw := hw.1 c_4
        refine lv_iconst (v := hz_i 1) hx hb dX12_bigSizes_97 (by decide +kernel) ?_
        exact L98 1 hw H locs ls hP hD hS (lv_sub hl [0] rfl)
      · have hw := hw.2 c_4
        refine lv_iconst (v := hz_i (-1)) hx hb dX12_bigSizes_93 (by decide +kernel) ?_
        refine lv_goto (tgt := 98) hx hb dX12_bigSizes_94 (by decide) ?_
        exact L98 (-1) hw H locs ls hP hD hS (lv_sub hl [0] rfl)
    · have hw := hw.2 c_1
      refine lv_iconst (v := hz_i 0) hx hb dX12_bigSizes_74 (by decide +kernel) ?_
      refine lv_goto (tgt := 98) hx hb dX12_bigSizes_75 (by decide) ?_
      exact L98 0 hw H locs ls hP hD hS (lv_sub hl [0] rfl)
  have L45 : ∀ (x3 : Int), wp_bigSizes_45 z A y1 y2 x3  Q → ∀ (H : Heap) (locs : List Loc) (ls : Array Slot), va_P D vwCl (mw_w om R C z A) H → va_D Ad (mw_w om R C z A) → va_S Ad s.heap H locs → lv_has ls 4 [(0, .ref om), (1, .int (hz_i y1)), (2, .int (hz_i y2)), (3, .int (hz_i x3))] → W p l e (headSpec wsX12_bigSizes ({ frames := 2, cells := 0, slots := 0, locals := 42 } : Room)).room s m (List.toArray [.ref om, .int (hz_i y1), .int (hz_i y2)]) below meth c H locs 0 0 QQ (F0 m 45 ls []) := by
    intro x3 hw
    obtain ⟨P45, hP45⟩ : ∃ P : Int → Prop, ∀ (x3 : Int), P x3 ↔ (∀ (H : Heap) (locs : List Loc) (ls : Array Slot), va_P D vwCl (mw_w om R C z A) H → va_D Ad (mw_w om R C z A) → va_S Ad s.heap H locs → lv_has ls 4 [(0, .ref om), (1, .int (hz_i y1)), (2, .int (hz_i y2)), (3, .int (hz_i x3))] → W p l e (headSpec wsX12_bigSizes ({ frames := 2, cells := 0, slots := 0, locals := 42 } : Room)).room s m (List.toArray [.ref om, .int (hz_i y1), .int (hz_i y2)]) below meth c H locs 0 0 QQ (F0 m 45 ls [])) := ⟨fun (x3 : Int) => ∀ (H : Heap) (locs : List Loc) (ls : Array Slot), va_P D vwCl (mw_w om R C z A) H → va_D Ad (mw_w om R C z A) → va_S Ad s.heap H locs → lv_has ls 4 [(0, .ref om), (1, .int (hz_i y1)), (2, .int (hz_i y2)), (3, .int (hz_i x3))] → W p l e (headSpec wsX12_bigSizes ({ frames := 2, cells := 0, slots := 0, locals := 42 } : Room)).room s m (List.toArray [.ref om, .int (hz_i y1), .int (hz_i y2)]) below meth c H locs 0 0 QQ (F0 m 45 ls []), fun _ => Iff.rfl⟩
    refine (hP45 x3).mp (hw P45 ?_)
    intro x3 hw
    refine (hP45 x3).mpr ?_
    intro H locs ls hP hD hS hl
    refine lv_iload_n hx hb dX12_bigSizes_45 rfl (lv_at hl 3 rfl) ?_
    obtain ⟨h9a, hw⟩ := hw
    refine hz_if_lt (tgt := 70) hx hb dX12_bigSizes_46 (by decide) h9a (fun c_5 => ?_) (fun c_5 => ?_)
    · have hw := hw.1 c_5
      exact L70 x3 hw H locs ls hP hD hS (lv_sub hl [0, 1, 2, 3] rfl)
    · have hw := hw.2 c_5
      refine lv_aload_n hx hb dX12_bigSizes_49 rfl (lv_at hl 0 rfl) ?_
      refine lv_iload_n hx hb dX12_bigSizes_50 rfl (lv_at hl 1 rfl) ?_
      refine lv_iload_n hx hb dX12_bigSizes_51 rfl (lv_at hl 3 rfl) ?_
      have hFc := mw_free hD hS hA
      refine va_calli (va_runV (As := [.int (hz_i y1), .int (hz_i x3)]) (rest := []) ⟨hx, hb, hml, hown, hts⟩ (k_bigAt l D _ om R C z A y1 x3 _ hw) (cwV 2 hts gX12_bigSizes_X12_bigAt rfl rfl rfl (by decide +kernel) ⟨Nat.le_of_ble_eq_true rfl, Nat.le_of_ble_eq_true rfl⟩) ⟨hm_blind, va_recv hK hP (ci := 12) (q0 := 0) rfl rfl, hm_pre hP hK hD hE⟩ rfl rfl hl.1 rfl (lv_room (Nat.le_of_ble_eq_true rfl)) dX12_bigSizes_52 ⟨Nat.le_of_ble_eq_true rfl, Nat.le_of_ble_eq_true rfl⟩) hS (fun q _ h => hFc q h) hFc (fun rv u t H1 locs ht hvm hw hB hz1 hk1 hS => ?_)
      obtain ⟨r_6, _, _⟩ := u
      obtain ⟨hP, hK1, hD1⟩ := hB
      rw [ht] at hP
      obtain ⟨hrv, hw⟩ := hw
      subst hrv
      have hD := hD1.weaken (fun k q _ h => hFc q.1 h)
      have hP : va_P D vwCl (mw_w om R C z A) H1 := hP
      have hD : va_D Ad (mw_w om R C z A) := hD
      generalize H1 = H at hP hS ⊢
      refine W.eq (g2 := F0 m 55 ls [.int (hz_i r_6)]) rfl ?_
      refine lv_aload_n hx hb dX12_bigSizes_55 rfl (lv_at hl 0 rfl) ?_
      refine lv_iload_n hx hb dX12_bigSizes_56 rfl (lv_at hl 2 rfl) ?_
      refine lv_iload_n hx hb dX12_bigSizes_57 rfl (lv_at hl 3 rfl) ?_
      have hFc := mw_free hD hS hA
      refine va_calli (va_runV (As := [.int (hz_i y2), .int (hz_i x3)]) (rest := [.int (hz_i r_6)]) ⟨hx, hb, hml, hown, hts⟩ (k_bigAt l D _ om R C z A y2 x3 _ hw) (cwV 2 hts gX12_bigSizes_X12_bigAt rfl rfl rfl (by decide +kernel) ⟨Nat.le_of_ble_eq_true rfl, Nat.le_of_ble_eq_true rfl⟩) ⟨hm_blind, va_recv hK hP (ci := 12) (q0 := 0) rfl rfl, hm_pre hP hK hD hE⟩ rfl rfl hl.1 rfl (lv_room (Nat.le_of_ble_eq_true rfl)) dX12_bigSizes_58 ⟨Nat.le_of_ble_eq_true rfl, Nat.le_of_ble_eq_true rfl⟩) hS (fun q _ h => hFc q h) hFc (fun rv u t H1 locs ht hvm hw hB hz1 hk1 hS => ?_)
      obtain ⟨r_7, _, _⟩ := u
      obtain ⟨hP, hK1, hD1⟩ := hB
      rw [ht] at hP
      obtain ⟨hrv, hw⟩ := hw
      subst hrv
      have hD := hD1.weaken (fun k q _ h => hFc q.1 h)
      have hP : va_P D vwCl (mw_w om R C z A) H1 := hP
      have hD : va_D Ad (mw_w om R C z A) := hD
      generalize H1 = H at hP hS ⊢
      refine W.eq (g2 := F0 m 61 ls [.int (hz_i r_7), .int (hz_i r_6)]) rfl ?_
      obtain ⟨h9a, hw⟩ := hw
      obtain ⟨h9b, hw⟩ := hw
      refine hz_icmp_ne (tgt := 70) hx hb dX12_bigSizes_61 (by decide) h9a h9b (fun c_8 => ?_) (fun c_8 => ?_)
      · have hw := hw.1 c_8
        exact L70 x3 hw H locs ls hP hD hS (lv_sub hl [0, 1, 2, 3] rfl)
      · have hw := hw.2 c_8
        obtain ⟨x3_9, hx3_9⟩ : ∃ y : Int, y = x3 + (-1) := ⟨_, rfl⟩
        have hw := hw x3_9 hx3_9
        refine lv_iinc (v := hz_i x3_9) (lv' := [(3, .int (hz_i x3_9)), (0, .ref om), (1, .int (hz_i y1)), (2, .int (hz_i y2))]) hx hb dX12_bigSizes_64 hl (k := 3) rfl (by rw [hx3_9]; exact hz_i_add _ _) (by decide) rfl (fun ls hl => ?_)
        refine lv_goto (tgt := 45) hx hb dX12_bigSizes_67 (by decide) ?_
        exact (hP45 x3_9).mp hw H locs ls hP hD hS (lv_sub hl [1, 2, 3, 0] rfl)
  have L35 : ∀ (t0 : Int), wp_bigSizes_35 z A t0  Q → ∀ (H : Heap) (locs : List Loc) (ls : Array Slot), va_P D vwCl (mw_w om R C z A) H → va_D Ad (mw_w om R C z A) → va_S Ad s.heap H locs → lv_has ls 4 [(0, .ref om)] → W p l e (headSpec wsX12_bigSizes ({ frames := 2, cells := 0, slots := 0, locals := 42 } : Room)).room s m (List.toArray [.ref om, .int (hz_i y1), .int (hz_i y2)]) below meth c H locs 0 0 QQ (F0 m 35 ls [.int (hz_i t0)]) := by
    intro t0 hw H locs ls hP hD hS hl
    subst hQQ
    subst hAe
    exact W.iret (v := hz_i t0) hx hb hr (fun t ht hW => ⟨⟨hz_i t0, (t0, z, A), rfl, ⟨rfl, hw⟩, by rw [ht]; exact hP, va_K.moved hW.alike hK, hD⟩, hS.F ht⟩) hS.2.2 dX12_bigSizes_35
  have hP := hP0; have hD := hD0; have hS := hS0; have hl := hl0; have hw := hw0
  obtain ⟨H, hH⟩ : ∃ H : Heap, H = s.heap := ⟨_, rfl⟩
  obtain ⟨locs, hlocs⟩ : ∃ L : List Loc, L = [] := ⟨_, rfl⟩
  rw [← hH] at hP
  have hS : va_S Ad s.heap H locs := by rw [hH, hlocs]; exact hS
  refine mw_HL hH hlocs ?_
  refine lv_aload_n hx hb dX12_bigSizes_0 rfl (lv_at hl 0 rfl) ?_
  refine mw_get (v := .ref (R 1)) hx hb hts hin12 hown hK hP 1 (by decide) (hts (.fieldLink RX12 18 "HiddenMovesModel" "lengths" "[I") (List.mem_cons_of_mem _ (List.mem_append_left _ (List.mem_of_getElem? (i := 0) rfl)))) (fun _ h9 => h9) rfl dX12_bigSizes_1 ?_
  refine lv_iload_n hx hb dX12_bigSizes_4 rfl (lv_at hl 1 rfl) ?_
  obtain ⟨h9i, hw⟩ := hw
  refine mw_ild (k := 1) (n := 4250) (i := y1) hx hb hK hP 2 1 rfl rfl h9i (by decide) dX12_bigSizes_5 ?_
  refine lv_aload_n hx hb dX12_bigSizes_6 rfl (lv_at hl 0 rfl) ?_
  refine mw_get (v := .ref (R 1)) hx hb hts hin12 hown hK hP 1 (by decide) (hts (.fieldLink RX12 18 "HiddenMovesModel" "lengths" "[I") (List.mem_cons_of_mem _ (List.mem_append_left _ (List.mem_of_getElem? (i := 0) rfl)))) (fun _ h9 => h9) rfl dX12_bigSizes_7 ?_
  refine lv_iload_n hx hb dX12_bigSizes_10 rfl (lv_at hl 2 rfl) ?_
  obtain ⟨h9i, hw⟩ := hw
  refine mw_ild (k := 1) (n := 4250) (i := y2) hx hb hK hP 2 1 rfl rfl h9i (by decide) dX12_bigSizes_11 ?_
  obtain ⟨h9a, hw⟩ := hw
  obtain ⟨h9b, hw⟩ := hw
  refine hz_icmp_eq (tgt := 36) hx hb dX12_bigSizes_12 (by decide) h9a h9b (fun c_10 => ?_) (fun c_10 => ?_)
  · have hw := hw.1 c_10
    refine lv_aload_n hx hb dX12_bigSizes_36 rfl (lv_at hl 0 rfl) ?_
    refine mw_get (v := .ref (R 1)) hx hb hts hin12 hown hK hP 1 (by decide) (hts (.fieldLink RX12 18 "HiddenMovesModel" "lengths" "[I") (List.mem_cons_of_mem _ (List.mem_append_left _ (List.mem_of_getElem? (i := 0) rfl)))) (fun _ h9 => h9) rfl dX12_bigSizes_37 ?_
    refine lv_iload_n hx hb dX12_bigSizes_40 rfl (lv_at hl 1 rfl) ?_
    obtain ⟨h9i, hw⟩ := hw
    refine mw_ild (k := 1) (n := 4250) (i := y1) hx hb hK hP 2 1 rfl rfl h9i (by decide) dX12_bigSizes_41 ?_
    refine lv_iconst (v := hz_i 1) hx hb dX12_bigSizes_42 (by decide +kernel) ?_
    refine hz_isub hx hb dX12_bigSizes_43 ?_
    refine hz_topi (fun x3_11 hx3_11 => ?_)
    have hw := hw x3_11 hx3_11
    refine lv_istore_n (lv' := [(3, .int (hz_i x3_11)), (0, .ref om), (1, .int (hz_i y1)), (2, .int (hz_i y2))]) hx hb dX12_bigSizes_44 rfl hl (by decide) rfl (fun ls hl => ?_)
    exact L45 x3_11 hw H locs ls hP hD hS (lv_sub hl [1, 2, 3, 0] rfl)
  · have hw := hw.2 c_10
    refine lv_aload_n hx hb dX12_bigSizes_15 rfl (lv_at hl 0 rfl) ?_
    refine mw_get (v := .ref (R 1)) hx hb hts hin12 hown hK hP 1 (by decide) (hts (.fieldLink RX12 18 "HiddenMovesModel" "lengths" "[I") (List.mem_cons_of_mem _ (List.mem_append_left _ (List.mem_of_getElem? (i := 0) rfl)))) (fun _ h9 => h9) rfl dX12_bigSizes_16 ?_
    refine lv_iload_n hx hb dX12_bigSizes_19 rfl (lv_at hl 1 rfl) ?_
    obtain ⟨h9i, hw⟩ := hw
    refine mw_ild (k := 1) (n := 4250) (i := y1) hx hb hK hP 2 1 rfl rfl h9i (by decide) dX12_bigSizes_20 ?_
    refine lv_aload_n hx hb dX12_bigSizes_21 rfl (lv_at hl 0 rfl) ?_
    refine mw_get (v := .ref (R 1)) hx hb hts hin12 hown hK hP 1 (by decide) (hts (.fieldLink RX12 18 "HiddenMovesModel" "lengths" "[I") (List.mem_cons_of_mem _ (List.mem_append_left _ (List.mem_of_getElem? (i := 0) rfl)))) (fun _ h9 => h9) rfl dX12_bigSizes_22 ?_
    refine lv_iload_n hx hb dX12_bigSizes_25 rfl (lv_at hl 2 rfl) ?_
    obtain ⟨h9i, hw⟩ := hw
    refine mw_ild (k := 1) (n := 4250) (i := y2) hx hb hK hP 2 1 rfl rfl h9i (by decide) dX12_bigSizes_26 ?_
    obtain ⟨h9a, hw⟩ := hw
    obtain ⟨h9b, hw⟩ := hw
    refine hz_icmp_ge (tgt := 34) hx hb dX12_bigSizes_27 (by decide) h9a h9b (fun c_12 => ?_) (fun c_12 => ?_)
    · have hw := hw.1 c_12
      refine lv_iconst (v := hz_i 1) hx hb dX12_bigSizes_34 (by decide +kernel) ?_
      exact L35 1 hw H locs ls hP hD hS (lv_sub hl [0] rfl)
    · have hw := hw.2 c_12
      refine lv_iconst (v := hz_i (-1)) hx hb dX12_bigSizes_30 (by decide +kernel) ?_
      refine lv_goto (tgt := 35) hx hb dX12_bigSizes_31 (by decide) ?_
      exact L35 (-1) hw H locs ls hP hD hS (lv_sub hl [0] rfl)

noncomputable def wp_bigCompare_41 (z : Nat → Int) (A : Nat → Nat → Int) (t0 : Int) (Q : Int → Prop) : Prop := Q t0
noncomputable def wp_bigCompare (z : Nat → Int) (A : Nat → Nat → Int) (y1 : Int) (y2 : Int) (Q : Int → Prop) : Prop := wp_bigSign z A y1 (fun r_1 => wp_bigSign z A y2 (fun r_2 => hz_rI r_1 ∧ hz_rI r_2 ∧ ((r_1 = r_2 → wp_bigSizes z A y1 y2 (fun r_4 => wp_bigCompare_41 z A (r_1 * r_4)  Q)) ∧ (¬ (r_1 = r_2) → hz_rI r_1 ∧ hz_rI r_2 ∧ ((r_2 ≤ r_1 → wp_bigCompare_41 z A 1  Q) ∧ (¬ (r_2 ≤ r_1) → wp_bigCompare_41 z A (-1)  Q))))))
set_option maxHeartbeats 4000000 in
set_option maxRecDepth 100000 in
theorem k_bigCompare (l : Launch) (D : va_G) (sz : Nat) (om : Nat) (R : Nat → Nat) (C : Nat → ClassId) (z : Nat → Int) (A : Nat → Nat → Int) (y1 : Int) (y2 : Int) (Q : Int → Prop) (hw : wp_bigCompare z A y1 y2 Q) : Met l yX12_bigCompare wsX12_bigCompare ({ frames := 3, cells := 0, slots := 0, locals := 65 } : Room) (va_Pc [.ref om, .int (hz_i y1), .int (hz_i y2)] (hm_P D (mw_w om R C z A) (mw_t C) sz)) (va_Qi (S := Int × (Nat → Int) × (Nat → Nat → Int)) (fun r u => r = hz_i u.1 ∧ Q u.1) (fun u t => hm_B D (va_A (mw_w om R C z A) sz) (mw_w om R C z A) (mw_t C) t) (va_A (mw_w om R C z A) sz)) 0 0 (va_A (mw_w om R C z A) sz) := by
  refine Met.ofW (cc := cX12_bigCompare) (maxL := 5) (ret := (some .int)) (by decide) rfl ?_
  intro p e s m args below meth c s₁ B hml hv
  obtain ⟨rfl, hsz, hP, hK, hD0, hE⟩ := hv
  have hx := B.exec
  have hb := B.bytes
  have hr := B.returns
  have hts := atoms_spec (ws := wsX12_bigCompare) B.pre
  have hown : s.vm.findClass RX12 = some m.cls := findClass_of_methodNamed B.named
  have hlocks := B.notSynchronized
  subst hsz
  have hD := hD0.self (sz := s.heap.size)
  generalize hAe : va_A (mw_w om R C z A) s.heap.size = Ad at hD ⊢
  have hA : ∀ q : Nat, s.heap.size ≤ q → Ad q := fun q h => by rw [← hAe]; exact Or.inr h
  have hS : va_S Ad s.heap s.heap [] := va_S.rf
  have hl := lv_entry ([.ref om, .int (hz_i y1), .int (hz_i y2)]) (n := 5) (Nat.le_of_ble_eq_true rfl)
  rw [lg_entry_eq]
  generalize (lg_sl ([.ref om, .int (hz_i y1), .int (hz_i y2)]) ++ List.replicate (5 - (lg_sl ([.ref om, .int (hz_i y1), .int (hz_i y2)])).length) Slot.unset).toArray = ls at hl ⊢
  have hl : lv_has ls 5 [(0, .ref om), (1, .int (hz_i y1)), (2, .int (hz_i y2))] := hl
  refine mw_Q (fun QQ hQQ => ?_)
  have hP0 := hP; have hD0 := hD; have hS0 := hS; have hl0 := hl; have hw0 := hw
  clear hP hD hS hl hw
  have L41 : ∀ (t0 : Int), wp_bigCompare_41 z A t0  Q → ∀ (H : Heap) (locs : List Loc) (ls : Array Slot), va_P D vwCl (mw_w om R C z A) H → va_D Ad (mw_w om R C z A) → va_S Ad s.heap H locs → lv_has ls 5 [(0, .ref om)] → W p l e (headSpec wsX12_bigCompare ({ frames := 3, cells := 0, slots := 0, locals := 65 } : Room)).room s m (List.toArray [.ref om, .int (hz_i y1), .int (hz_i y2)]) below meth c H locs 0 0 QQ (F0 m 41 ls [.int (hz_i t0)]) := by
    intro t0 hw H locs ls hP hD hS hl
    subst hQQ
    subst hAe
    exact W.iret (v := hz_i t0) hx hb hr (fun t ht hW => ⟨⟨hz_i t0, (t0, z, A), rfl, ⟨rfl, hw⟩, by rw [ht]; exact hP, va_K.moved hW.alike hK, hD⟩, hS.F ht⟩) hS.2.2 dX12_bigCompare_41
  have hP := hP0; have hD := hD0; have hS := hS0; have hl := hl0; have hw := hw0
  obtain ⟨H, hH⟩ : ∃ H : Heap, H = s.heap := ⟨_, rfl⟩
  obtain ⟨locs, hlocs⟩ : ∃ L : List Loc, L = [] := ⟨_, rfl⟩
  rw [← hH] at hP
  have hS : va_S Ad s.heap H locs := by rw [hH, hlocs]; exact hS
  refine mw_HL hH hlocs ?_
  refine lv_aload_n hx hb dX12_bigCompare_0 rfl (lv_at hl 0 rfl) ?_
  refine lv_iload_n hx hb dX12_bigCompare_1 rfl (lv_at hl 1 rfl) ?_
  have hFc := mw_free hD hS hA
  refine va_calli (va_runV (As := [.int (hz_i y1)]) (rest := []) ⟨hx, hb, hml, hown, hts⟩ (k_bigSign l D _ om R C z A y1 _ hw) (cwV 1 hts gX12_bigCompare_X12_bigSign rfl rfl rfl (by decide +kernel) ⟨Nat.le_of_ble_eq_true rfl, Nat.le_of_ble_eq_true rfl⟩) ⟨hm_blind, va_recv hK hP (ci := 12) (q0 := 0) rfl rfl, hm_pre hP hK hD hE⟩ rfl rfl hl.1 rfl (lv_room (Nat.le_of_ble_eq_true rfl)) dX12_bigCompare_2 ⟨Nat.le_of_ble_eq_true rfl, Nat.le_of_ble_eq_true rfl⟩) hS (fun q _ h => hFc q h) hFc (fun rv u t H1 locs ht hvm hw hB hz1 hk1 hS => ?_)
  obtain ⟨r_1, _, _⟩ := u
  obtain ⟨hP, hK1, hD1⟩ := hB
  rw [ht] at hP
  obtain ⟨hrv, hw⟩ := hw
  subst hrv
  have hD := hD1.weaken (fun k q _ h => hFc q.1 h)
  have hP : va_P D vwCl (mw_w om R C z A) H1 := hP
  have hD : va_D Ad (mw_w om R C z A) := hD
  generalize H1 = H at hP hS ⊢
  refine W.eq (g2 := F0 m 5 ls [.int (hz_i r_1)]) rfl ?_
  refine lv_istore_n (lv' := [(3, .int (hz_i r_1)), (0, .ref om), (1, .int (hz_i y1)), (2, .int (hz_i y2))]) hx hb dX12_bigCompare_5 rfl hl (by decide) rfl (fun ls hl => ?_)
  refine lv_aload_n hx hb dX12_bigCompare_6 rfl (lv_at hl 1 rfl) ?_
  refine lv_iload_n hx hb dX12_bigCompare_7 rfl (lv_at hl 3 rfl) ?_
  have hFc := mw_free hD hS hA
  refine va_calli (va_runV (As := [.int (hz_i y2)]) (rest := []) ⟨hx, hb, hml, hown, hts⟩ (k_bigSign l D _ om R C z A y2 _ hw) (cwV 1 hts gX12_bigCompare_X12_bigSign rfl rfl rfl (by decide +kernel) ⟨Nat.le_of_ble_eq_true rfl, Nat.le_of_ble_eq_true rfl⟩) ⟨hm_blind, va_recv hK hP (ci := 12) (q0 := 0) rfl rfl, hm_pre hP hK hD hE⟩ rfl rfl hl.1 rfl (lv_room (Nat.le_of_ble_eq_true rfl)) dX12_bigCompare_8 ⟨Nat.le_of_ble_eq_true rfl, Nat.le_of_ble_eq_true rfl⟩) hS (fun q _ h => hFc q h) hFc (fun rv u t H1 locs ht hvm hw hB hz1 hk1 hS => ?_)
  obtain ⟨r_2, _, _⟩ := u
  obtain ⟨hP, hK1, hD1⟩ := hB
  rw [ht] at hP
  obtain ⟨hrv, hw⟩ := hw
  subst hrv
  have hD := hD1.weaken (fun k q _ h => hFc q.1 h)
  have hP : va_P D vwCl (mw_w om R C z A) H1 := hP
  have hD : va_D Ad (mw_w om R C z A) := hD
  generalize H1 = H at hP hS ⊢
  refine W.eq (g2 := F0 m 11 ls [.int (hz_i r_2)]) rfl ?_
  refine lv_istore (lv' := [(4, .int (hz_i r_2)), (3, .int (hz_i r_1)), (0, .ref om), (1, .int (hz_i y1)), (2, .int (hz_i y2))]) hx hb dX12_bigCompare_11 hl (by decide) rfl (fun ls hl => ?_)
  refine lv_iload_n hx hb dX12_bigCompare_13 rfl (lv_at hl 1 rfl) ?_
  refine lv_iload hx hb dX12_bigCompare_14 (lv_at hl 0 rfl) ?_
  obtain ⟨h9a, hw⟩ := hw
  obtain ⟨h9b, hw⟩ := hw
  refine hz_icmp_eq (tgt := 33) hx hb dX12_bigCompare_16 (by decide) h9a h9b (fun c_3 => ?_) (fun c_3 => ?_)
  · have hw := hw.1 c_3
    refine lv_iload_n hx hb dX12_bigCompare_33 rfl (lv_at hl 1 rfl) ?_
    refine lv_aload_n hx hb dX12_bigCompare_34 rfl (lv_at hl 2 rfl) ?_
    refine lv_iload_n hx hb dX12_bigCompare_35 rfl (lv_at hl 3 rfl) ?_
    refine lv_iload_n hx hb dX12_bigCompare_36 rfl (lv_at hl 4 rfl) ?_
    have hFc := mw_free hD hS hA
    refine va_calli (va_runV (As := [.int (hz_i y1), .int (hz_i y2)]) (rest := [.int (hz_i r_1)]) ⟨hx, hb, hml, hown, hts⟩ (k_bigSizes l D _ om R C z A y1 y2 _ hw) (cwV 2 hts gX12_bigCompare_X12_bigSizes rfl rfl rfl (by decide +kernel) ⟨Nat.le_of_ble_eq_true rfl, Nat.le_of_ble_eq_true rfl⟩) ⟨hm_blind, va_recv hK hP (ci := 12) (q0 := 0) rfl rfl, hm_pre hP hK hD hE⟩ rfl rfl hl.1 rfl (lv_room (Nat.le_of_ble_eq_true rfl)) dX12_bigCompare_37 ⟨Nat.le_of_ble_eq_true rfl, Nat.le_of_ble_eq_true rfl⟩) hS (fun q _ h => hFc q h) hFc (fun rv u t H1 locs ht hvm hw hB hz1 hk1 hS => ?_)
    obtain ⟨r_4, _, _⟩ := u
    obtain ⟨hP, hK1, hD1⟩ := hB
    rw [ht] at hP
    obtain ⟨hrv, hw⟩ := hw
    subst hrv
    have hD := hD1.weaken (fun k q _ h => hFc q.1 h)
    have hP : va_P D vwCl (mw_w om R C z A) H1 := hP
    have hD : va_D Ad (mw_w om R C z A) := hD
    generalize H1 = H at hP hS ⊢
    refine W.eq (g2 := F0 m 40 ls [.int (hz_i r_4), .int (hz_i r_1)]) rfl ?_
    refine hz_imul hx hb dX12_bigCompare_40 ?_
    exact L41 (r_1 * r_4) hw H locs ls hP hD hS (lv_sub hl [2] rfl)
  · have hw := hw.2 c_3
    refine lv_iload_n hx hb dX12_bigCompare_19 rfl (lv_at hl 1 rfl) ?_
    refine lv_iload hx hb dX12_bigCompare_20 (lv_at hl 0 rfl) ?_
    obtain ⟨h9a, hw⟩ := hw
    obtain ⟨h9b, hw⟩ := hw
    refine hz_icmp_ge (tgt := 29) hx hb dX12_bigCompare_22 (by decide) h9a h9b (fun c_5 => ?_) (fun c_5 => ?_)
    · have hw := hw.1 c_5
      refine lv_iconst (v := hz_i 1) hx hb dX12_bigCompare_29 (by decide +kernel) ?_
      refine lv_goto (tgt := 41) hx hb dX12_bigCompare_30 (by decide) ?_
      exact L41 1 hw H locs ls hP hD hS (lv_sub hl [2] rfl)
    · have hw := hw.2 c_5
      refine lv_iconst (v := hz_i (-1)) hx hb dX12_bigCompare_25 (by decide +kernel) ?_
      refine lv_goto (tgt := 41) hx hb dX12_bigCompare_26 (by decide) ?_
      exact L41 (-1) hw H locs ls hP hD hS (lv_sub hl [2] rfl)

noncomputable def wp_bigMore_127 (z : Nat → Int) (A : Nat → Nat → Int) (Q : (Nat → Nat → Int) → Prop) : Prop := Q A
noncomputable def wp_bigMore_37 (z : Nat → Int) (A : Nat → Nat → Int) (y1 : Int) (y2 : Int) (x3 : Int) (x4 : Int) (x5 : Int) (Q : (Nat → Nat → Int) → Prop) : Prop := ∀ P37 : (Nat → Nat → Int) → Int → Int → Prop, (∀ (A : Nat → Nat → Int) (x4 : Int) (x5 : Int), hz_rI x5 ∧ hz_rI x3 ∧ ((x3 ≤ x5 → (0 ≤ y1 ∧ y1 < 4250) ∧ ∀ A_2 : Nat → Nat → Int, A_2 = hz_s A 1 y1 x3 → hz_rI x4 ∧ ((x4 ≤ 0 → wp_bigMore_127 z A_2  Q) ∧ (¬ (x4 ≤ 0) → wp_from z A_2 y1 (fun r_4 => (0 ≤ r_4 + x3 ∧ r_4 + x3 < 553480) ∧ ∀ A_5 : Nat → Nat → Int, A_5 = hz_s A_2 0 (r_4 + x3) x4 → (0 ≤ y1 ∧ y1 < 4250) ∧ ∀ A_6 : Nat → Nat → Int, A_6 = hz_s A_5 1 y1 (x3 + 1) → wp_bigMore_127 z A_6  Q)))) ∧ (¬ (x3 ≤ x5) → wp_bigAt z A y1 x5 (fun r_7 => wp_bigAt z A y2 x5 (fun r_8 => ∀ x6_9 : Int, x6_9 = (r_7 + r_8) + x4 → wp_from z A y1 (fun r_10 => hz_rI x6_9 ∧ (0 ≤ r_10 + x5 ∧ r_10 + x5 < 553480) ∧ ∀ A_11 : Nat → Nat → Int, A_11 = hz_s A 0 (r_10 + x5) (x6_9.tmod 16777216) → hz_rI x6_9 ∧ ∀ x4_12 : Int, x4_12 = x6_9.tdiv 16777216 → ∀ x5_13 : Int, x5_13 = x5 + 1 → P37 A_11 x4_12 x5_13))))) → P37 A x4 x5) → P37 A x4 x5
noncomputable def wp_bigMore_30 (z : Nat → Int) (A : Nat → Nat → Int) (y1 : Int) (y2 : Int) (t0 : Int) (Q : (Nat → Nat → Int) → Prop) : Prop := wp_bigMore_37 z A y1 y2 t0 0 0  Q
noncomputable def wp_bigMore (z : Nat → Int) (A : Nat → Nat → Int) (y1 : Int) (y2 : Int) (Q : (Nat → Nat → Int) → Prop) : Prop := (0 ≤ y1 ∧ y1 < 4250) ∧ (0 ≤ y2 ∧ y2 < 4250) ∧ hz_rI (A 1 (y1.toNat)) ∧ hz_rI (A 1 (y2.toNat)) ∧ ((A 1 (y1.toNat) ≤ A 1 (y2.toNat) → (0 ≤ y2 ∧ y2 < 4250) ∧ wp_bigMore_30 z A y1 y2 (A 1 (y2.toNat))  Q) ∧ (¬ (A 1 (y1.toNat) ≤ A 1 (y2.toNat)) → (0 ≤ y1 ∧ y1 < 4250) ∧ wp_bigMore_30 z A y1 y2 (A 1 (y1.toNat))  Q))
set_option maxHeartbeats 4000000 in
set_option maxRecDepth 100000 in
theorem k_bigMore (l : Launch) (D : va_G) (sz : Nat) (om : Nat) (R : Nat → Nat) (C : Nat → ClassId) (z : Nat → Int) (A : Nat → Nat → Int) (y1 : Int) (y2 : Int) (Q : (Nat → Nat → Int) → Prop) (hw : wp_bigMore z A y1 y2 Q) : Met l yX12_bigMore wsX12_bigMore ({ frames := 2, cells := 0, slots := 0, locals := 42 } : Room) (va_Pc [.ref om, .int (hz_i y1), .int (hz_i y2)] (hm_P D (mw_w om R C z A) (mw_t C) sz)) (va_Qv (S := Int × (Nat → Int) × (Nat → Nat → Int)) (fun u => Q u.2.2) (fun u t => hm_B D (va_A (mw_w om R C z A) sz) (mw_w om R C z u.2.2) (mw_t C) t) (va_A (mw_w om R C z A) sz)) 0 0 (va_A (mw_w om R C z A) sz) := by
  refine Met.ofW (cc := cX12_bigMore) (maxL := 7) (ret := none) (by decide) rfl ?_
  intro p e s m args below meth c s₁ B hml hv
  obtain ⟨rfl, hsz, hP, hK, hD0, hE⟩ := hv
  have hx := B.exec
  have hb := B.bytes
  have hr := B.returns
  have hts := atoms_spec (ws := wsX12_bigMore) B.pre
  have hown : s.vm.findClass RX12 = some m.cls := findClass_of_methodNamed B.named
  have hlocks := B.notSynchronized
  have hin12 : ∀ w ∈ u_ws RX12 TX12 58, w ∈ wsX12_bigMore := fun w h => List.mem_cons_of_mem _ (List.mem_append_right _ (h))
  subst hsz
  have hD := hD0.self (sz := s.heap.size)
  generalize hAe : va_A (mw_w om R C z A) s.heap.size = Ad at hD ⊢
  have hA : ∀ q : Nat, s.heap.size ≤ q → Ad q := fun q h => by rw [← hAe]; exact Or.inr h
  have hS : va_S Ad s.heap s.heap [] := va_S.rf
  have hl := lv_entry ([.ref om, .int (hz_i y1), .int (hz_i y2)]) (n := 7) (Nat.le_of_ble_eq_true rfl)
  rw [lg_entry_eq]
  generalize (lg_sl ([.ref om, .int (hz_i y1), .int (hz_i y2)]) ++ List.replicate (7 - (lg_sl ([.ref om, .int (hz_i y1), .int (hz_i y2)])).length) Slot.unset).toArray = ls at hl ⊢
  have hl : lv_has ls 7 [(0, .ref om), (1, .int (hz_i y1)), (2, .int (hz_i y2))] := hl
  refine mw_Q (fun QQ hQQ => ?_)
  have hP0 := hP; have hD0 := hD; have hS0 := hS; have hl0 := hl; have hw0 := hw
  clear hP hD hS hl hw
  have L127 : ∀ (A : Nat → Nat → Int), wp_bigMore_127 z A  Q → ∀ (H : Heap) (locs : List Loc) (ls : Array Slot), va_P D vwCl (mw_w om R C z A) H → va_D Ad (mw_w om R C z A) → va_S Ad s.heap H locs → lv_has ls 7 [(0, .ref om)] → W p l e (headSpec wsX12_bigMore ({ frames := 2, cells := 0, slots := 0, locals := 42 } : Room)).room s m (List.toArray [.ref om, .int (hz_i y1), .int (hz_i y2)]) below meth c H locs 0 0 QQ (F0 m 127 ls []) := by
    intro A hw H locs ls hP hD hS hl
    subst hQQ
    subst hAe
    exact W.vret hx hb hr (fun t ht hW => ⟨⟨(0, z, A), rfl, hw, by rw [ht]; exact hP, va_K.moved hW.alike hK, hD⟩, hS.F ht⟩) hS.2.2 dX12_bigMore_127
  have L37 : ∀ (A : Nat → Nat → Int) (x3 : Int) (x4 : Int) (x5 : Int), wp_bigMore_37 z A y1 y2 x3 x4 x5  Q → ∀ (H : Heap) (locs : List Loc) (ls : Array Slot), va_P D vwCl (mw_w om R C z A) H → va_D Ad (mw_w om R C z A) → va_S Ad s.heap H locs → lv_has ls 7 [(0, .ref om), (1, .int (hz_i y1)), (2, .int (hz_i y2)), (3, .int (hz_i x3)), (4, .int (hz_i x4)), (5, .int (hz_i x5))] → W p l e (headSpec wsX12_bigMore ({ frames := 2, cells := 0, slots := 0, locals := 42 } : Room)).room s m (List.toArray [.ref om, .int (hz_i y1), .int (hz_i y2)]) below meth c H locs 0 0 QQ (F0 m 37 ls []) := by
    intro A x3 x4 x5 hw
    obtain ⟨P37, hP37⟩ : ∃ P : (Nat → Nat → Int) → Int → Int → Prop, ∀ (A : Nat → Nat → Int) (x4 : Int) (x5 : Int), P A x4 x5 ↔ (∀ (H : Heap) (locs : List Loc) (ls : Array Slot), va_P D vwCl (mw_w om R C z A) H → va_D Ad (mw_w om R C z A) → va_S Ad s.heap H locs → lv_has ls 7 [(0, .ref om), (1, .int (hz_i y1)), (2, .int (hz_i y2)), (3, .int (hz_i x3)), (4, .int (hz_i x4)), (5, .int (hz_i x5))] → W p l e (headSpec wsX12_bigMore ({ frames := 2, cells := 0, slots := 0, locals := 42 } : Room)).room s m (List.toArray [.ref om, .int (hz_i y1), .int (hz_i y2)]) below meth c H locs 0 0 QQ (F0 m 37 ls [])) := ⟨fun (A : Nat → Nat → Int) (x4 : Int) (x5 : Int) => ∀ (H : Heap) (locs : List Loc) (ls : Array Slot), va_P D vwCl (mw_w om R C z A) H → va_D Ad (mw_w om R C z A) → va_S Ad s.heap H locs → lv_has ls 7 [(0, .ref om), (1, .int (hz_i y1)), (2, .int (hz_i y2)), (3, .int (hz_i x3)), (4, .int (hz_i x4)), (5, .int (hz_i x5))] → W p l e (headSpec wsX12_bigMore ({ frames := 2, cells := 0, slots := 0, locals := 42 } : Room)).room s m (List.toArray [.ref om, .int (hz_i y1), .int (hz_i y2)]) below meth c H locs 0 0 QQ (F0 m 37 ls []), fun _ _ _ => Iff.rfl⟩
    refine (hP37 A x4 x5).mp (hw P37 ?_)
    intro A x4 x5 hw
    refine (hP37 A x4 x5).mpr ?_
    intro H locs ls hP hD hS hl
    refine lv_iload hx hb dX12_bigMore_37 (lv_at hl 5 rfl) ?_
    refine lv_iload_n hx hb dX12_bigMore_39 rfl (lv_at hl 3 rfl) ?_
    obtain ⟨h9a, hw⟩ := hw
    obtain ⟨h9b, hw⟩ := hw
    refine hz_icmp_ge (tgt := 93) hx hb dX12_bigMore_40 (by decide) h9a h9b (fun c_1 => ?_) (fun c_1 => ?_)
    · have hw := hw.1 c_1
      refine lv_aload_n hx hb dX12_bigMore_93 rfl (lv_at hl 0 rfl) ?_
      refine mw_get (v := .ref (R 1)) hx hb hts hin12 hown hK hP 1 (by decide) (hts (.fieldLink RX12 18 "HiddenMovesModel" "lengths" "[I") (List.mem_cons_of_mem _ (List.mem_append_left _ (List.mem_of_getElem? (i := 0) rfl)))) (fun _ h9 => h9) rfl dX12_bigMore_94 ?_
      refine lv_iload_n hx hb dX12_bigMore_97 rfl (lv_at hl 1 rfl) ?_
      refine lv_iload_n hx hb dX12_bigMore_98 rfl (lv_at hl 3 rfl) ?_
      obtain ⟨h9i, hw⟩ := hw
      refine mw_ist (k := 1) (n := 4250) (i := y1) (v := x3) hx hb hK hP hD hS 2 1 rfl rfl (mw_a1 om R C z A) h9i (by decide) dX12_bigMore_99 (fun H locs hP hD hS => ?_)
      obtain ⟨A_2, hA_2⟩ : ∃ y : Nat → Nat → Int, y = hz_s A 1 y1 x3 := ⟨_, rfl⟩
      rw [← hA_2] at hP hD
      have hw := hw A_2 hA_2
      refine lv_iload hx hb dX12_bigMore_100 (lv_at hl 4 rfl) ?_
      obtain ⟨h9a, hw⟩ := hw
      refine hz_if_le (tgt := 127) hx hb dX12_bigMore_102 (by decide) h9a (fun c_3 => ?_) (fun c_3 => ?_)
      · have hw := hw.1 c_3
        exact L127 A_2 hw H locs ls hP hD hS (lv_sub hl [0] rfl)
      · have hw := hw.2 c_3
        refine lv_aload_n hx hb dX12_bigMore_105 rfl (lv_at hl 0 rfl) ?_
        refine mw_get (v := .ref (R 0)) hx hb hts hin12 hown hK hP 0 (by decide) (hts (.fieldLink RX12 8 "HiddenMovesModel" "parts" "[I") (List.mem_cons_of_mem _ (List.mem_append_left _ (List.mem_of_getElem? (i := 1) rfl)))) (fun _ h9 => h9) rfl dX12_bigMore_106 ?_
        refine lv_iload_n hx hb dX12_bigMore_109 rfl (lv_at hl 1 rfl) ?_
        have hFc := mw_free hD hS hA
        refine va_calli (va_runS (As := [.int (hz_i y1)]) (rest := [.ref (R 0)]) ⟨hx, hb, hml, hown, hts⟩ (k_from l D _ om R C z A_2 y1 _ hw) (va_cwS 1 hts gX12_bigMore_X12_from rfl rfl rfl (by decide +kernel) ⟨Nat.le_of_ble_eq_true rfl, Nat.le_of_ble_eq_true rfl⟩) ⟨hm_blind, hm_pre hP hK hD hE⟩ rfl rfl hl.1 rfl (lv_room (Nat.le_of_ble_eq_true rfl)) dX12_bigMore_110 ⟨Nat.le_of_ble_eq_true rfl, Nat.le_of_ble_eq_true rfl⟩) hS (fun q _ h => hFc q h) hFc (fun rv u t H1 locs ht hvm hw hB hz1 hk1 hS => ?_)
        obtain ⟨r_4, _, _⟩ := u
        obtain ⟨hP, hK1, hD1⟩ := hB
        rw [ht] at hP
        obtain ⟨hrv, hw⟩ := hw
        subst hrv
        have hD := hD1.weaken (fun k q _ h => hFc q.1 h)
        have hP : va_P D vwCl (mw_w om R C z A_2) H1 := hP
        have hD : va_D Ad (mw_w om R C z A_2) := hD
        generalize H1 = H at hP hS ⊢
        refine W.eq (g2 := F0 m 113 ls [.int (hz_i r_4), .ref (R 0)]) rfl ?_
        refine lv_iload_n hx hb dX12_bigMore_113 rfl (lv_at hl 3 rfl) ?_
        refine hz_iadd hx hb dX12_bigMore_114 ?_
        refine lv_iload hx hb dX12_bigMore_115 (lv_at hl 4 rfl) ?_
        obtain ⟨h9i, hw⟩ := hw
        refine mw_ist (k := 0) (n := 553480) (i := r_4 + x3) (v := x4) hx hb hK hP hD hS 1 0 rfl rfl (mw_a0 om R C z A_2) h9i (by decide) dX12_bigMore_117 (fun H locs hP hD hS => ?_)
        obtain ⟨A_5, hA_5⟩ : ∃ y : Nat → Nat → Int, y = hz_s A_2 0 (r_4 + x3) x4 := ⟨_, rfl⟩
        rw [← hA_5] at hP hD
        have hw := hw A_5 hA_5
        refine lv_aload_n hx hb dX12_bigMore_118 rfl (lv_at hl 0 rfl) ?_
        refine mw_get (v := .ref (R 1)) hx hb hts hin12 hown hK hP 1 (by decide) (hts (.fieldLink RX12 18 "HiddenMovesModel" "lengths" "[I") (List.mem_cons_of_mem _ (List.mem_append_left _ (List.mem_of_getElem? (i := 0) rfl)))) (fun _ h9 => h9) rfl dX12_bigMore_119 ?_
        refine lv_iload_n hx hb dX12_bigMore_122 rfl (lv_at hl 1 rfl) ?_
        refine lv_iload_n hx hb dX12_bigMore_123 rfl (lv_at hl 3 rfl) ?_
        refine lv_iconst (v := hz_i 1) hx hb dX12_bigMore_124 (by decide +kernel) ?_
        refine hz_iadd hx hb dX12_bigMore_125 ?_
        obtain ⟨h9i, hw⟩ := hw
        refine mw_ist (k := 1) (n := 4250) (i := y1) (v := x3 + 1) hx hb hK hP hD hS 2 1 rfl rfl (mw_a1 om R C z A_5) h9i (by decide) dX12_bigMore_126 (fun H locs hP hD hS => ?_)
        obtain ⟨A_6, hA_6⟩ : ∃ y : Nat → Nat → Int, y = hz_s A_5 1 y1 (x3 + 1) := ⟨_, rfl⟩
        rw [← hA_6] at hP hD
        have hw := hw A_6 hA_6
        exact L127 A_6 hw H locs ls hP hD hS (lv_sub hl [0] rfl)
    · have hw := hw.2 c_1
      refine lv_aload_n hx hb dX12_bigMore_43 rfl (lv_at hl 0 rfl) ?_
      refine lv_iload_n hx hb dX12_bigMore_44 rfl (lv_at hl 1 rfl) ?_
      refine lv_iload hx hb dX12_bigMore_45 (lv_at hl 5 rfl) ?_
      have hFc := mw_free hD hS hA
      refine va_calli (va_runV (As := [.int (hz_i y1), .int (hz_i x5)]) (rest := []) ⟨hx, hb, hml, hown, hts⟩ (k_bigAt l D _ om R C z A y1 x5 _ hw) (cwV 2 hts gX12_bigMore_X12_bigAt rfl rfl rfl (by decide +kernel) ⟨Nat.le_of_ble_eq_true rfl, Nat.le_of_ble_eq_true rfl⟩) ⟨hm_blind, va_recv hK hP (ci := 12) (q0 := 0) rfl rfl, hm_pre hP hK hD hE⟩ rfl rfl hl.1 rfl (lv_room (Nat.le_of_ble_eq_true rfl)) dX12_bigMore_47 ⟨Nat.le_of_ble_eq_true rfl, Nat.le_of_ble_eq_true rfl⟩) hS (fun q _ h => hFc q h) hFc (fun rv u t H1 locs ht hvm hw hB hz1 hk1 hS => ?_)
      obtain ⟨r_7, _, _⟩ := u
      obtain ⟨hP, hK1, hD1⟩ := hB
      rw [ht] at hP
      obtain ⟨hrv, hw⟩ := hw
      subst hrv
      have hD := hD1.weaken (fun k q _ h => hFc q.1 h)
      have hP : va_P D vwCl (mw_w om R C z A) H1 := hP
      have hD : va_D Ad (mw_w om R C z A) := hD
      generalize H1 = H at hP hS ⊢
      refine W.eq (g2 := F0 m 50 ls [.int (hz_i r_7)]) rfl ?_
      refine lv_aload_n hx hb dX12_bigMore_50 rfl (lv_at hl 0 rfl) ?_
      refine lv_iload_n hx hb dX12_bigMore_51 rfl (lv_at hl 2 rfl) ?_
      refine lv_iload hx hb dX12_bigMore_52 (lv_at hl 5 rfl) ?_
      have hFc := mw_free hD hS hA
      refine va_calli (va_runV (As := [.int (hz_i y2), .int (hz_i x5)]) (rest := [.int (hz_i r_7)]) ⟨hx, hb, hml, hown, hts⟩ (k_bigAt l D _ om R C z A y2 x5 _ hw) (cwV 2 hts gX12_bigMore_X12_bigAt rfl rfl rfl (by decide +kernel) ⟨Nat.le_of_ble_eq_true rfl, Nat.le_of_ble_eq_true rfl⟩) ⟨hm_blind, va_recv hK hP (ci := 12) (q0 := 0) rfl rfl, hm_pre hP hK hD hE⟩ rfl rfl hl.1 rfl (lv_room (Nat.le_of_ble_eq_true rfl)) dX12_bigMore_54 ⟨Nat.le_of_ble_eq_true rfl, Nat.le_of_ble_eq_true rfl⟩) hS (fun q _ h => hFc q h) hFc (fun rv u t H1 locs ht hvm hw hB hz1 hk1 hS => ?_)
      obtain ⟨r_8, _, _⟩ := u
      obtain ⟨hP, hK1, hD1⟩ := hB
      rw [ht] at hP
      obtain ⟨hrv, hw⟩ := hw
      subst hrv
      have hD := hD1.weaken (fun k q _ h => hFc q.1 h)
      have hP : va_P D vwCl (mw_w om R C z A) H1 := hP
      have hD : va_D Ad (mw_w om R C z A) := hD
      generalize H1 = H at hP hS ⊢
      refine W.eq (g2 := F0 m 57 ls [.int (hz_i r_8), .int (hz_i r_7)]) rfl ?_
      refine hz_iadd hx hb dX12_bigMore_57 ?_
      refine lv_iload hx hb dX12_bigMore_58 (lv_at hl 4 rfl) ?_
      refine hz_iadd hx hb dX12_bigMore_60 ?_
      refine hz_topi (fun x6_9 hx6_9 => ?_)
      have hw := hw x6_9 hx6_9
      refine lv_istore (lv' := [(6, .int (hz_i x6_9)), (0, .ref om), (1, .int (hz_i y1)), (2, .int (hz_i y2)), (3, .int (hz_i x3)), (4, .int (hz_i x4)), (5, .int (hz_i x5))]) hx hb dX12_bigMore_61 hl (by decide) rfl (fun ls hl => ?_)
      refine lv_aload_n hx hb dX12_bigMore_63 rfl (lv_at hl 1 rfl) ?_
      refine mw_get (v := .ref (R 0)) hx hb hts hin12 hown hK hP 0 (by decide) (hts (.fieldLink RX12 8 "HiddenMovesModel" "parts" "[I") (List.mem_cons_of_mem _ (List.mem_append_left _ (List.mem_of_getElem? (i := 1) rfl)))) (fun _ h9 => h9) rfl dX12_bigMore_64 ?_
      refine lv_iload_n hx hb dX12_bigMore_67 rfl (lv_at hl 2 rfl) ?_
      have hFc := mw_free hD hS hA
      refine va_calli (va_runS (As := [.int (hz_i y1)]) (rest := [.ref (R 0)]) ⟨hx, hb, hml, hown, hts⟩ (k_from l D _ om R C z A y1 _ hw) (va_cwS 1 hts gX12_bigMore_X12_from rfl rfl rfl (by decide +kernel) ⟨Nat.le_of_ble_eq_true rfl, Nat.le_of_ble_eq_true rfl⟩) ⟨hm_blind, hm_pre hP hK hD hE⟩ rfl rfl hl.1 rfl (lv_room (Nat.le_of_ble_eq_true rfl)) dX12_bigMore_68 ⟨Nat.le_of_ble_eq_true rfl, Nat.le_of_ble_eq_true rfl⟩) hS (fun q _ h => hFc q h) hFc (fun rv u t H1 locs ht hvm hw hB hz1 hk1 hS => ?_)
      obtain ⟨r_10, _, _⟩ := u
      obtain ⟨hP, hK1, hD1⟩ := hB
      rw [ht] at hP
      obtain ⟨hrv, hw⟩ := hw
      subst hrv
      have hD := hD1.weaken (fun k q _ h => hFc q.1 h)
      have hP : va_P D vwCl (mw_w om R C z A) H1 := hP
      have hD : va_D Ad (mw_w om R C z A) := hD
      generalize H1 = H at hP hS ⊢
      refine W.eq (g2 := F0 m 71 ls [.int (hz_i r_10), .ref (R 0)]) rfl ?_
      refine lv_iload hx hb dX12_bigMore_71 (lv_at hl 6 rfl) ?_
      refine hz_iadd hx hb dX12_bigMore_73 ?_
      refine lv_iload hx hb dX12_bigMore_74 (lv_at hl 0 rfl) ?_
      refine lv_ldc hx hb hown (hts (.constant RX12 31 (16777216)) (List.mem_cons_of_mem _ (List.mem_append_left _ (List.mem_of_getElem? (i := 2) rfl)))) dX12_bigMore_76 ?_
      refine hz_asi (b := 16777216) (by decide +kernel) ?_
      obtain ⟨h9a, hw⟩ := hw
      refine hz_irem hx hb dX12_bigMore_78 (by decide) h9a ⟨by decide, by decide⟩ ?_
      obtain ⟨h9i, hw⟩ := hw
      refine mw_ist (k := 0) (n := 553480) (i := r_10 + x5) (v := x6_9.tmod 16777216) hx hb hK hP hD hS 1 0 rfl rfl (mw_a0 om R C z A) h9i (by decide) dX12_bigMore_79 (fun H locs hP hD hS => ?_)
      obtain ⟨A_11, hA_11⟩ : ∃ y : Nat → Nat → Int, y = hz_s A 0 (r_10 + x5) (x6_9.tmod 16777216) := ⟨_, rfl⟩
      rw [← hA_11] at hP hD
      have hw := hw A_11 hA_11
      refine lv_iload hx hb dX12_bigMore_80 (lv_at hl 0 rfl) ?_
      refine lv_ldc hx hb hown (hts (.constant RX12 31 (16777216)) (List.mem_cons_of_mem _ (List.mem_append_left _ (List.mem_of_getElem? (i := 2) rfl)))) dX12_bigMore_82 ?_
      refine hz_asi (b := 16777216) (by decide +kernel) ?_
      obtain ⟨h9a, hw⟩ := hw
      refine hz_idiv hx hb dX12_bigMore_84 (by decide) h9a ⟨by decide, by decide⟩ ?_
      refine hz_topi (fun x4_12 hx4_12 => ?_)
      have hw := hw x4_12 hx4_12
      refine lv_istore (lv' := [(4, .int (hz_i x4_12)), (6, .int (hz_i x6_9)), (0, .ref om), (1, .int (hz_i y1)), (2, .int (hz_i y2)), (3, .int (hz_i x3)), (5, .int (hz_i x5))]) hx hb dX12_bigMore_85 hl (by decide) rfl (fun ls hl => ?_)
      obtain ⟨x5_13, hx5_13⟩ : ∃ y : Int, y = x5 + 1 := ⟨_, rfl⟩
      have hw := hw x5_13 hx5_13
      refine lv_iinc (v := hz_i x5_13) (lv' := [(5, .int (hz_i x5_13)), (4, .int (hz_i x4_12)), (6, .int (hz_i x6_9)), (0, .ref om), (1, .int (hz_i y1)), (2, .int (hz_i y2)), (3, .int (hz_i x3))]) hx hb dX12_bigMore_87 hl (k := 6) rfl (by rw [hx5_13]; exact hz_i_add _ _) (by decide) rfl (fun ls hl => ?_)
      refine lv_goto (tgt := 37) hx hb dX12_bigMore_90 (by decide) ?_
      exact (hP37 A_11 x4_12 x5_13).mp hw H locs ls hP hD hS (lv_sub hl [3, 4, 5, 6, 1, 0] rfl)
  have L30 : ∀ (A : Nat → Nat → Int) (t0 : Int), wp_bigMore_30 z A y1 y2 t0  Q → ∀ (H : Heap) (locs : List Loc) (ls : Array Slot), va_P D vwCl (mw_w om R C z A) H → va_D Ad (mw_w om R C z A) → va_S Ad s.heap H locs → lv_has ls 7 [(0, .ref om), (1, .int (hz_i y1)), (2, .int (hz_i y2))] → W p l e (headSpec wsX12_bigMore ({ frames := 2, cells := 0, slots := 0, locals := 42 } : Room)).room s m (List.toArray [.ref om, .int (hz_i y1), .int (hz_i y2)]) below meth c H locs 0 0 QQ (F0 m 30 ls [.int (hz_i t0)]) := by
    intro A t0 hw H locs ls hP hD hS hl
    refine lv_istore_n (lv' := [(3, .int (hz_i t0)), (0, .ref om), (1, .int (hz_i y1)), (2, .int (hz_i y2))]) hx hb dX12_bigMore_30 rfl hl (by decide) rfl (fun ls hl => ?_)
    refine lv_iconst (v := hz_i 0) hx hb dX12_bigMore_31 (by decide +kernel) ?_
    refine lv_istore (lv' := [(4, .int (hz_i 0)), (3, .int (hz_i t0)), (0, .ref om), (1, .int (hz_i y1)), (2, .int (hz_i y2))]) hx hb dX12_bigMore_32 hl (by decide) rfl (fun ls hl => ?_)
    refine lv_iconst (v := hz_i 0) hx hb dX12_bigMore_34 (by decide +kernel) ?_
    refine lv_istore (lv' := [(5, .int (hz_i 0)), (4, .int (hz_i 0)), (3, .int (hz_i t0)), (0, .ref om), (1, .int (hz_i y1)), (2, .int (hz_i y2))]) hx hb dX12_bigMore_35 hl (by decide) rfl (fun ls hl => ?_)
    exact L37 A t0 0 0 hw H locs ls hP hD hS (lv_sub hl [3, 4, 5, 2, 1, 0] rfl)
  have hP := hP0; have hD := hD0; have hS := hS0; have hl := hl0; have hw := hw0
  obtain ⟨H, hH⟩ : ∃ H : Heap, H = s.heap := ⟨_, rfl⟩
  obtain ⟨locs, hlocs⟩ : ∃ L : List Loc, L = [] := ⟨_, rfl⟩
  rw [← hH] at hP
  have hS : va_S Ad s.heap H locs := by rw [hH, hlocs]; exact hS
  refine mw_HL hH hlocs ?_
  refine lv_aload_n hx hb dX12_bigMore_0 rfl (lv_at hl 0 rfl) ?_
  refine mw_get (v := .ref (R 1)) hx hb hts hin12 hown hK hP 1 (by decide) (hts (.fieldLink RX12 18 "HiddenMovesModel" "lengths" "[I") (List.mem_cons_of_mem _ (List.mem_append_left _ (List.mem_of_getElem? (i := 0) rfl)))) (fun _ h9 => h9) rfl dX12_bigMore_1 ?_
  refine lv_iload_n hx hb dX12_bigMore_4 rfl (lv_at hl 1 rfl) ?_
  obtain ⟨h9i, hw⟩ := hw
  refine mw_ild (k := 1) (n := 4250) (i := y1) hx hb hK hP 2 1 rfl rfl h9i (by decide) dX12_bigMore_5 ?_
  refine lv_aload_n hx hb dX12_bigMore_6 rfl (lv_at hl 0 rfl) ?_
  refine mw_get (v := .ref (R 1)) hx hb hts hin12 hown hK hP 1 (by decide) (hts (.fieldLink RX12 18 "HiddenMovesModel" "lengths" "[I") (List.mem_cons_of_mem _ (List.mem_append_left _ (List.mem_of_getElem? (i := 0) rfl)))) (fun _ h9 => h9) rfl dX12_bigMore_7 ?_
  refine lv_iload_n hx hb dX12_bigMore_10 rfl (lv_at hl 2 rfl) ?_
  obtain ⟨h9i, hw⟩ := hw
  refine mw_ild (k := 1) (n := 4250) (i := y2) hx hb hK hP 2 1 rfl rfl h9i (by decide) dX12_bigMore_11 ?_
  obtain ⟨h9a, hw⟩ := hw
  obtain ⟨h9b, hw⟩ := hw
  refine hz_icmp_le (tgt := 24) hx hb dX12_bigMore_12 (by decide) h9a h9b (fun c_14 => ?_) (fun c_14 => ?_)
  · have hw := hw.1 c_14
    refine lv_aload_n hx hb dX12_bigMore_24 rfl (lv_at hl 0 rfl) ?_
    refine mw_get (v := .ref (R 1)) hx hb hts hin12 hown hK hP 1 (by decide) (hts (.fieldLink RX12 18 "HiddenMovesModel" "lengths" "[I") (List.mem_cons_of_mem _ (List.mem_append_left _ (List.mem_of_getElem? (i := 0) rfl)))) (fun _ h9 => h9) rfl dX12_bigMore_25 ?_
    refine lv_iload_n hx hb dX12_bigMore_28 rfl (lv_at hl 2 rfl) ?_
    obtain ⟨h9i, hw⟩ := hw
    refine mw_ild (k := 1) (n := 4250) (i := y2) hx hb hK hP 2 1 rfl rfl h9i (by decide) dX12_bigMore_29 ?_
    exact L30 A (A 1 (y2.toNat)) hw H locs ls hP hD hS (lv_sub hl [0, 1, 2] rfl)
  · have hw := hw.2 c_14
    refine lv_aload_n hx hb dX12_bigMore_15 rfl (lv_at hl 0 rfl) ?_
    refine mw_get (v := .ref (R 1)) hx hb hts hin12 hown hK hP 1 (by decide) (hts (.fieldLink RX12 18 "HiddenMovesModel" "lengths" "[I") (List.mem_cons_of_mem _ (List.mem_append_left _ (List.mem_of_getElem? (i := 0) rfl)))) (fun _ h9 => h9) rfl dX12_bigMore_16 ?_
    refine lv_iload_n hx hb dX12_bigMore_19 rfl (lv_at hl 1 rfl) ?_
    obtain ⟨h9i, hw⟩ := hw
    refine mw_ild (k := 1) (n := 4250) (i := y1) hx hb hK hP 2 1 rfl rfl h9i (by decide) dX12_bigMore_20 ?_
    refine lv_goto (tgt := 30) hx hb dX12_bigMore_21 (by decide) ?_
    exact L30 A (A 1 (y1.toNat)) hw H locs ls hP hD hS (lv_sub hl [0, 1, 2] rfl)

noncomputable def wp_bigDiffer_125 (z : Nat → Int) (A : Nat → Nat → Int) (y1 : Int) (y2 : Int) (y3 : Int) (x4 : Int) (x5 : Int) (x6 : Int) (t0 : Int) (t1 : Int) (P38 : (Nat → Nat → Int) → Int → Int → Prop) (Q : (Nat → Nat → Int) → Prop) : Prop := (0 ≤ t1 ∧ t1 < 553480) ∧ ∀ A_1 : Nat → Nat → Int, A_1 = hz_s A 0 t1 t0 → ∀ x6_2 : Int, x6_2 = x6 + 1 → P38 A_1 x5 x6_2
noncomputable def wp_bigDiffer_97 (z : Nat → Int) (A : Nat → Nat → Int) (y1 : Int) (y2 : Int) (y3 : Int) (x4 : Int) (x6 : Int) (x7 : Int) (t0 : Int) (P38 : (Nat → Nat → Int) → Int → Int → Prop) (Q : (Nat → Nat → Int) → Prop) : Prop := wp_from z A y1 (fun r_3 => hz_rI x7 ∧ ((0 ≤ x7 → wp_bigDiffer_125 z A y1 y2 y3 x4 t0 x6 x7 (r_3 + x6) P38 Q) ∧ (¬ (0 ≤ x7) → wp_bigDiffer_125 z A y1 y2 y3 x4 t0 x6 (x7 + 16777216) (r_3 + x6) P38 Q)))
noncomputable def wp_bigDiffer_82 (z : Nat → Int) (A : Nat → Nat → Int) (y1 : Int) (y2 : Int) (y3 : Int) (x4 : Int) (x5 : Int) (x6 : Int) (t0 : Int) (P38 : (Nat → Nat → Int) → Int → Int → Prop) (Q : (Nat → Nat → Int) → Prop) : Prop := ∀ x7_5 : Int, x7_5 = t0 - x5 → hz_rI x7_5 ∧ ((0 ≤ x7_5 → wp_bigDiffer_97 z A y1 y2 y3 x4 x6 x7_5 0 P38 Q) ∧ (¬ (0 ≤ x7_5) → wp_bigDiffer_97 z A y1 y2 y3 x4 x6 x7_5 1 P38 Q))
noncomputable def wp_bigDiffer_38 (z : Nat → Int) (A : Nat → Nat → Int) (y1 : Int) (y2 : Int) (y3 : Int) (x4 : Int) (x5 : Int) (x6 : Int) (Q : (Nat → Nat → Int) → Prop) : Prop := ∀ P38 : (Nat → Nat → Int) → Int → Int → Prop, (∀ (A : Nat → Nat → Int) (x5 : Int) (x6 : Int), hz_rI x6 ∧ hz_rI x4 ∧ ((x4 ≤ x6 → (0 ≤ y1 ∧ y1 < 4250) ∧ ∀ A_8 : Nat → Nat → Int, A_8 = hz_s A 1 y1 x4 → wp_bigTrim z A_8 y1 (fun A_10 => Q A_10)) ∧ (¬ (x4 ≤ x6) → hz_rI y3 ∧ ((y3 = 0 → wp_bigAt z A y1 x6 (fun r_12 => wp_bigAt z A y2 x6 (fun r_13 => wp_bigDiffer_82 z A y1 y2 y3 x4 x5 x6 (r_12 - r_13) P38 Q))) ∧ (¬ (y3 = 0) → wp_bigAt z A y2 x6 (fun r_14 => wp_bigAt z A y1 x6 (fun r_15 => wp_bigDiffer_82 z A y1 y2 y3 x4 x5 x6 (r_14 - r_15) P38 Q)))))) → P38 A x5 x6) → P38 A x5 x6
noncomputable def wp_bigDiffer_30 (z : Nat → Int) (A : Nat → Nat → Int) (y1 : Int) (y2 : Int) (y3 : Int) (t0 : Int) (Q : (Nat → Nat → Int) → Prop) : Prop := wp_bigDiffer_38 z A y1 y2 y3 t0 0 0  Q
noncomputable def wp_bigDiffer (z : Nat → Int) (A : Nat → Nat → Int) (y1 : Int) (y2 : Int) (y3 : Int) (Q : (Nat → Nat → Int) → Prop) : Prop := (0 ≤ y1 ∧ y1 < 4250) ∧ (0 ≤ y2 ∧ y2 < 4250) ∧ hz_rI (A 1 (y1.toNat)) ∧ hz_rI (A 1 (y2.toNat)) ∧ ((A 1 (y1.toNat) ≤ A 1 (y2.toNat) → (0 ≤ y2 ∧ y2 < 4250) ∧ wp_bigDiffer_30 z A y1 y2 y3 (A 1 (y2.toNat))  Q) ∧ (¬ (A 1 (y1.toNat) ≤ A 1 (y2.toNat)) → (0 ≤ y1 ∧ y1 < 4250) ∧ wp_bigDiffer_30 z A y1 y2 y3 (A 1 (y1.toNat))  Q))
set_option maxHeartbeats 4000000 in
set_option maxRecDepth 100000 in
theorem k_bigDiffer (l : Launch) (D : va_G) (sz : Nat) (om : Nat) (R : Nat → Nat) (C : Nat → ClassId) (z : Nat → Int) (A : Nat → Nat → Int) (y1 : Int) (y2 : Int) (y3 : Int) (Q : (Nat → Nat → Int) → Prop) (hw : wp_bigDiffer z A y1 y2 y3 Q) : Met l yX12_bigDiffer wsX12_bigDiffer ({ frames := 2, cells := 0, slots := 0, locals := 42 } : Room) (va_Pc [.ref om, .int (hz_i y1), .int (hz_i y2), .int (hz_i y3)] (hm_P D (mw_w om R C z A) (mw_t C) sz)) (va_Qv (S := Int × (Nat → Int) × (Nat → Nat → Int)) (fun u => Q u.2.2) (fun u t => hm_B D (va_A (mw_w om R C z A) sz) (mw_w om R C z u.2.2) (mw_t C) t) (va_A (mw_w om R C z A) sz)) 0 0 (va_A (mw_w om R C z A) sz) := by
  refine Met.ofW (cc := cX12_bigDiffer) (maxL := 8) (ret := none) (by decide) rfl ?_
  intro p e s m args below meth c s₁ B hml hv
  obtain ⟨rfl, hsz, hP, hK, hD0, hE⟩ := hv
  have hx := B.exec
  have hb := B.bytes
  have hr := B.returns
  have hts := atoms_spec (ws := wsX12_bigDiffer) B.pre
  have hown : s.vm.findClass RX12 = some m.cls := findClass_of_methodNamed B.named
  have hlocks := B.notSynchronized
  have hin12 : ∀ w ∈ u_ws RX12 TX12 58, w ∈ wsX12_bigDiffer := fun w h => List.mem_cons_of_mem _ (List.mem_append_right _ (h))
  subst hsz
  have hD := hD0.self (sz := s.heap.size)
  generalize hAe : va_A (mw_w om R C z A) s.heap.size = Ad at hD ⊢
  have hA : ∀ q : Nat, s.heap.size ≤ q → Ad q := fun q h => by rw [← hAe]; exact Or.inr h
  have hS : va_S Ad s.heap s.heap [] := va_S.rf
  have hl := lv_entry ([.ref om, .int (hz_i y1), .int (hz_i y2), .int (hz_i y3)]) (n := 8) (Nat.le_of_ble_eq_true rfl)
  rw [lg_entry_eq]
  generalize (lg_sl ([.ref om, .int (hz_i y1), .int (hz_i y2), .int (hz_i y3)]) ++ List.replicate (8 - (lg_sl ([.ref om, .int (hz_i y1), .int (hz_i y2), .int (hz_i y3)])).length) Slot.unset).toArray = ls at hl ⊢
  have hl : lv_has ls 8 [(0, .ref om), (1, .int (hz_i y1)), (2, .int (hz_i y2)), (3, .int (hz_i y3))] := hl
  refine mw_Q (fun QQ hQQ => ?_)
  have hP0 := hP; have hD0 := hD; have hS0 := hS; have hl0 := hl; have hw0 := hw
  clear hP hD hS hl hw
  have L38 : ∀ (A : Nat → Nat → Int) (x4 : Int) (x5 : Int) (x6 : Int), wp_bigDiffer_38 z A y1 y2 y3 x4 x5 x6  Q → ∀ (H : Heap) (locs : List Loc) (ls : Array Slot), va_P D vwCl (mw_w om R C z A) H → va_D Ad (mw_w om R C z A) → va_S Ad s.heap H locs → lv_has ls 8 [(0, .ref om), (1, .int (hz_i y1)), (2, .int (hz_i y2)), (3, .int (hz_i y3)), (4, .int (hz_i x4)), (5, .int (hz_i x5)), (6, .int (hz_i x6))] → W p l e (headSpec wsX12_bigDiffer ({ frames := 2, cells := 0, slots := 0, locals := 42 } : Room)).room s m (List.toArray [.ref om, .int (hz_i y1), .int (hz_i y2), .int (hz_i y3)]) below meth c H locs 0 0 QQ (F0 m 38 ls []) := by
    intro A x4 x5 x6 hw
    obtain ⟨P38, hP38⟩ : ∃ P : (Nat → Nat → Int) → Int → Int → Prop, ∀ (A : Nat → Nat → Int) (x5 : Int) (x6 : Int), P A x5 x6 ↔ (∀ (H : Heap) (locs : List Loc) (ls : Array Slot), va_P D vwCl (mw_w om R C z A) H → va_D Ad (mw_w om R C z A) → va_S Ad s.heap H locs → lv_has ls 8 [(0, .ref om), (1, .int (hz_i y1)), (2, .int (hz_i y2)), (3, .int (hz_i y3)), (4, .int (hz_i x4)), (5, .int (hz_i x5)), (6, .int (hz_i x6))] → W p l e (headSpec wsX12_bigDiffer ({ frames := 2, cells := 0, slots := 0, locals := 42 } : Room)).room s m (List.toArray [.ref om, .int (hz_i y1), .int (hz_i y2), .int (hz_i y3)]) below meth c H locs 0 0 QQ (F0 m 38 ls [])) := ⟨fun (A : Nat → Nat → Int) (x5 : Int) (x6 : Int) => ∀ (H : Heap) (locs : List Loc) (ls : Array Slot), va_P D vwCl (mw_w om R C z A) H → va_D Ad (mw_w om R C z A) → va_S Ad s.heap H locs → lv_has ls 8 [(0, .ref om), (1, .int (hz_i y1)), (2, .int (hz_i y2)), (3, .int (hz_i y3)), (4, .int (hz_i x4)), (5, .int (hz_i x5)), (6, .int (hz_i x6))] → W p l e (headSpec wsX12_bigDiffer ({ frames := 2, cells := 0, slots := 0, locals := 42 } : Room)).room s m (List.toArray [.ref om, .int (hz_i y1), .int (hz_i y2), .int (hz_i y3)]) below meth c H locs 0 0 QQ (F0 m 38 ls []), fun _ _ _ => Iff.rfl⟩
    refine (hP38 A x5 x6).mp (hw P38 ?_)
    intro A x5 x6 hw
    refine (hP38 A x5 x6).mpr ?_
    intro H locs ls hP hD hS hl
    have L125 : ∀ (A : Nat → Nat → Int) (x5 : Int) (x6 : Int) (t0 : Int) (t1 : Int), wp_bigDiffer_125 z A y1 y2 y3 x4 x5 x6 t0 t1 P38 Q → ∀ (H : Heap) (locs : List Loc) (ls : Array Slot), va_P D vwCl (mw_w om R C z A) H → va_D Ad (mw_w om R C z A) → va_S Ad s.heap H locs → lv_has ls 8 [(0, .ref om), (1, .int (hz_i y1)), (2, .int (hz_i y2)), (3, .int (hz_i y3)), (4, .int (hz_i x4)), (5, .int (hz_i x5)), (6, .int (hz_i x6))] → W p l e (headSpec wsX12_bigDiffer ({ frames := 2, cells := 0, slots := 0, locals := 42 } : Room)).room s m (List.toArray [.ref om, .int (hz_i y1), .int (hz_i y2), .int (hz_i y3)]) below meth c H locs 0 0 QQ (F0 m 125 ls [.int (hz_i t0), .int (hz_i t1), .ref (R 0)]) := by
      intro A x5 x6 t0 t1 hw H locs ls hP hD hS hl
      obtain ⟨h9i, hw⟩ := hw
      refine mw_ist (k := 0) (n := 553480) (i := t1) (v := t0) hx hb hK hP hD hS 1 0 rfl rfl (mw_a0 om R C z A) h9i (by decide) dX12_bigDiffer_125 (fun H locs hP hD hS => ?_)
      obtain ⟨A_1, hA_1⟩ : ∃ y : Nat → Nat → Int, y = hz_s A 0 t1 t0 := ⟨_, rfl⟩
      rw [← hA_1] at hP hD
      have hw := hw A_1 hA_1
      obtain ⟨x6_2, hx6_2⟩ : ∃ y : Int, y = x6 + 1 := ⟨_, rfl⟩
      have hw := hw x6_2 hx6_2
      refine lv_iinc (v := hz_i x6_2) (lv' := [(6, .int (hz_i x6_2)), (0, .ref om), (1, .int (hz_i y1)), (2, .int (hz_i y2)), (3, .int (hz_i y3)), (4, .int (hz_i x4)), (5, .int (hz_i x5))]) hx hb dX12_bigDiffer_126 hl (k := 6) rfl (by rw [hx6_2]; exact hz_i_add _ _) (by decide) rfl (fun ls hl => ?_)
      refine lv_goto (tgt := 38) hx hb dX12_bigDiffer_129 (by decide) ?_
      exact (hP38 A_1 x5 x6_2).mp hw H locs ls hP hD hS (lv_sub hl [1, 2, 3, 4, 5, 6, 0] rfl)
    have L97 : ∀ (A : Nat → Nat → Int) (x6 : Int) (x7 : Int) (t0 : Int), wp_bigDiffer_97 z A y1 y2 y3 x4 x6 x7 t0 P38 Q → ∀ (H : Heap) (locs : List Loc) (ls : Array Slot), va_P D vwCl (mw_w om R C z A) H → va_D Ad (mw_w om R C z A) → va_S Ad s.heap H locs → lv_has ls 8 [(0, .ref om), (1, .int (hz_i y1)), (2, .int (hz_i y2)), (3, .int (hz_i y3)), (4, .int (hz_i x4)), (6, .int (hz_i x6)), (7, .int (hz_i x7))] → W p l e (headSpec wsX12_bigDiffer ({ frames := 2, cells := 0, slots := 0, locals := 42 } : Room)).room s m (List.toArray [.ref om, .int (hz_i y1), .int (hz_i y2), .int (hz_i y3)]) below meth c H locs 0 0 QQ (F0 m 97 ls [.int (hz_i t0)]) := by
      intro A x6 x7 t0 hw H locs ls hP hD hS hl
      refine lv_istore (lv' := [(5, .int (hz_i t0)), (0, .ref om), (1, .int (hz_i y1)), (2, .int (hz_i y2)), (3, .int (hz_i y3)), (4, .int (hz_i x4)), (6, .int (hz_i x6)), (7, .int (hz_i x7))]) hx hb dX12_bigDiffer_97 hl (by decide) rfl (fun ls hl => ?_)
      refine lv_aload_n hx hb dX12_bigDiffer_99 rfl (lv_at hl 1 rfl) ?_
      refine mw_get (v := .ref (R 0)) hx hb hts hin12 hown hK hP 0 (by decide) (hts (.fieldLink RX12 8 "HiddenMovesModel" "parts" "[I") (List.mem_cons_of_mem _ (List.mem_append_left _ (List.mem_of_getElem? (i := 1) rfl)))) (fun _ h9 => h9) rfl dX12_bigDiffer_100 ?_
      refine lv_iload_n hx hb dX12_bigDiffer_103 rfl (lv_at hl 2 rfl) ?_
      have hFc := mw_free hD hS hA
      refine va_calli (va_runS (As := [.int (hz_i y1)]) (rest := [.ref (R 0)]) ⟨hx, hb, hml, hown, hts⟩ (k_from l D _ om R C z A y1 _ hw) (va_cwS 1 hts gX12_bigDiffer_X12_from rfl rfl rfl (by decide +kernel) ⟨Nat.le_of_ble_eq_true rfl, Nat.le_of_ble_eq_true rfl⟩) ⟨hm_blind, hm_pre hP hK hD hE⟩ rfl rfl hl.1 rfl (lv_room (Nat.le_of_ble_eq_true rfl)) dX12_bigDiffer_104 ⟨Nat.le_of_ble_eq_true rfl, Nat.le_of_ble_eq_true rfl⟩) hS (fun q _ h => hFc q h) hFc (fun rv u t H1 locs ht hvm hw hB hz1 hk1 hS => ?_)
      obtain ⟨r_3, _, _⟩ := u
      obtain ⟨hP, hK1, hD1⟩ := hB
      rw [ht] at hP
      obtain ⟨hrv, hw⟩ := hw
      subst hrv
      have hD := hD1.weaken (fun k q _ h => hFc q.1 h)
      have hP : va_P D vwCl (mw_w om R C z A) H1 := hP
      have hD : va_D Ad (mw_w om R C z A) := hD
      generalize H1 = H at hP hS ⊢
      refine W.eq (g2 := F0 m 107 ls [.int (hz_i r_3), .ref (R 0)]) rfl ?_
      refine lv_iload hx hb dX12_bigDiffer_107 (lv_at hl 6 rfl) ?_
      refine hz_iadd hx hb dX12_bigDiffer_109 ?_
      refine lv_iload hx hb dX12_bigDiffer_110 (lv_at hl 7 rfl) ?_
      obtain ⟨h9a, hw⟩ := hw
      refine hz_if_ge (tgt := 123) hx hb dX12_bigDiffer_112 (by decide) h9a (fun c_4 => ?_) (fun c_4 => ?_)
      · have hw := hw.1 c_4
        refine lv_iload hx hb dX12_bigDiffer_123 (lv_at hl 7 rfl) ?_
        exact L125 A t0 x6 x7 (r_3 + x6) hw H locs ls hP hD hS (lv_sub hl [1, 2, 3, 4, 5, 0, 6] rfl)
      · have hw := hw.2 c_4
        refine lv_iload hx hb dX12_bigDiffer_115 (lv_at hl 7 rfl) ?_
        refine lv_ldc hx hb hown (hts (.constant RX12 31 (16777216)) (List.mem_cons_of_mem _ (List.mem_append_left _ (List.mem_of_getElem? (i := 2) rfl)))) dX12_bigDiffer_117 ?_
        refine hz_asi (b := 16777216) (by decide +kernel) ?_
        refine hz_iadd hx hb dX12_bigDiffer_119 ?_
        refine lv_goto (tgt := 125) hx hb dX12_bigDiffer_120 (by decide) ?_
        exact L125 A t0 x6 (x7 + 16777216) (r_3 + x6) hw H locs ls hP hD hS (lv_sub hl [1, 2, 3, 4, 5, 0, 6] rfl)
    have L82 : ∀ (A : Nat → Nat → Int) (x5 : Int) (x6 : Int) (t0 : Int), wp_bigDiffer_82 z A y1 y2 y3 x4 x5 x6 t0 P38 Q → ∀ (H : Heap) (locs : List Loc) (ls : Array Slot), va_P D vwCl (mw_w om R C z A) H → va_D Ad (mw_w om R C z A) → va_S Ad s.heap H locs → lv_has ls 8 [(0, .ref om), (1, .int (hz_i y1)), (2, .int (hz_i y2)), (3, .int (hz_i y3)), (4, .int (hz_i x4)), (5, .int (hz_i x5)), (6, .int (hz_i x6))] → W p l e (headSpec wsX12_bigDiffer ({ frames := 2, cells := 0, slots := 0, locals := 42 } : Room)).room s m (List.toArray [.ref om, .int (hz_i y1), .int (hz_i y2), .int (hz_i y3)]) below meth c H locs 0 0 QQ (F0 m 82 ls [.int (hz_i t0)]) := by
      intro A x5 x6 t0 hw H locs ls hP hD hS hl
      refine lv_iload hx hb dX12_bigDiffer_82 (lv_at hl 5 rfl) ?_
      refine hz_isub hx hb dX12_bigDiffer_84 ?_
      refine hz_topi (fun x7_5 hx7_5 => ?_)
      have hw := hw x7_5 hx7_5
      refine lv_istore (lv' := [(7, .int (hz_i x7_5)), (0, .ref om), (1, .int (hz_i y1)), (2, .int (hz_i y2)), (3, .int (hz_i y3)), (4, .int (hz_i x4)), (5, .int (hz_i x5)), (6, .int (hz_i x6))]) hx hb dX12_bigDiffer_85 hl (by decide) rfl (fun ls hl => ?_)
      refine lv_iload hx hb dX12_bigDiffer_87 (lv_at hl 0 rfl) ?_
      obtain ⟨h9a, hw⟩ := hw
      refine hz_if_ge (tgt := 96) hx hb dX12_bigDiffer_89 (by decide) h9a (fun c_6 => ?_) (fun c_6 => ?_)
      · have hw := hw.1 c_6
        refine lv_iconst (v := hz_i 0) hx hb dX12_bigDiffer_96 (by decide +kernel) ?_
        exact L97 A x6 x7_5 0 hw H locs ls hP hD hS (lv_sub hl [1, 2, 3, 4, 5, 7, 0] rfl)
      · have hw := hw.2 c_6
        refine lv_iconst (v := hz_i 1) hx hb dX12_bigDiffer_92 (by decide +kernel) ?_
        refine lv_goto (tgt := 97) hx hb dX12_bigDiffer_93 (by decide) ?_
        exact L97 A x6 x7_5 1 hw H locs ls hP hD hS (lv_sub hl [1, 2, 3, 4, 5, 7, 0] rfl)
    refine lv_iload hx hb dX12_bigDiffer_38 (lv_at hl 6 rfl) ?_
    refine lv_iload hx hb dX12_bigDiffer_40 (lv_at hl 4 rfl) ?_
    obtain ⟨h9a, hw⟩ := hw
    obtain ⟨h9b, hw⟩ := hw
    refine hz_icmp_ge (tgt := 132) hx hb dX12_bigDiffer_42 (by decide) h9a h9b (fun c_7 => ?_) (fun c_7 => ?_)
    · have hw := hw.1 c_7
      refine lv_aload_n hx hb dX12_bigDiffer_132 rfl (lv_at hl 0 rfl) ?_
      refine mw_get (v := .ref (R 1)) hx hb hts hin12 hown hK hP 1 (by decide) (hts (.fieldLink RX12 18 "HiddenMovesModel" "lengths" "[I") (List.mem_cons_of_mem _ (List.mem_append_left _ (List.mem_of_getElem? (i := 0) rfl)))) (fun _ h9 => h9) rfl dX12_bigDiffer_133 ?_
      refine lv_iload_n hx hb dX12_bigDiffer_136 rfl (lv_at hl 1 rfl) ?_
      refine lv_iload hx hb dX12_bigDiffer_137 (lv_at hl 4 rfl) ?_
      obtain ⟨h9i, hw⟩ := hw
      refine mw_ist (k := 1) (n := 4250) (i := y1) (v := x4) hx hb hK hP hD hS 2 1 rfl rfl (mw_a1 om R C z A) h9i (by decide) dX12_bigDiffer_139 (fun H locs hP hD hS => ?_)
      obtain ⟨A_8, hA_8⟩ : ∃ y : Nat → Nat → Int, y = hz_s A 1 y1 x4 := ⟨_, rfl⟩
      rw [← hA_8] at hP hD
      have hw := hw A_8 hA_8
      refine lv_aload_n hx hb dX12_bigDiffer_140 rfl (lv_at hl 0 rfl) ?_
      refine lv_iload_n hx hb dX12_bigDiffer_141 rfl (lv_at hl 1 rfl) ?_
      have hFc := mw_free hD hS hA
      refine va_callv (va_runV (As := [.int (hz_i y1)]) (rest := []) ⟨hx, hb, hml, hown, hts⟩ (k_bigTrim l D _ om R C z A_8 y1 _ hw) (cwV 1 hts gX12_bigDiffer_X12_bigTrim rfl rfl rfl (by decide +kernel) ⟨Nat.le_of_ble_eq_true rfl, Nat.le_of_ble_eq_true rfl⟩) ⟨hm_blind, va_recv hK hP (ci := 12) (q0 := 0) rfl rfl, hm_pre hP hK hD hE⟩ rfl rfl hl.1 rfl (lv_room (Nat.le_of_ble_eq_true rfl)) dX12_bigDiffer_142 ⟨Nat.le_of_ble_eq_true rfl, Nat.le_of_ble_eq_true rfl⟩) hS (fun q _ h => hFc q h) hFc (fun u t H1 locs ht hvm hw hB hz1 hk1 hS => ?_)
      obtain ⟨r_9, _, A_10⟩ := u
      obtain ⟨hP, hK1, hD1⟩ := hB
      rw [ht] at hP
      have hD := hD1.weaken (fun k q _ h => hFc q.1 h)
      have hP : va_P D vwCl (mw_w om R C z A_10) H1 := hP
      have hD : va_D Ad (mw_w om R C z A_10) := hD
      generalize H1 = H at hP hS ⊢
      refine W.eq (g2 := F0 m 145 ls []) rfl ?_
      subst hQQ
      subst hAe
      exact W.vret hx hb hr (fun t ht hW => ⟨⟨(0, z, A_10), rfl, hw, by rw [ht]; exact hP, va_K.moved hW.alike hK, hD⟩, hS.F ht⟩) hS.2.2 dX12_bigDiffer_145
    · have hw := hw.2 c_7
      refine lv_iload_n hx hb dX12_bigDiffer_45 rfl (lv_at hl 3 rfl) ?_
      obtain ⟨h9a, hw⟩ := hw
      refine hz_if_eq (tgt := 67) hx hb dX12_bigDiffer_46 (by decide) h9a (fun c_11 => ?_) (fun c_11 => ?_)
      · have hw := hw.1 c_11
        refine lv_aload_n hx hb dX12_bigDiffer_67 rfl (lv_at hl 0 rfl) ?_
        refine lv_iload_n hx hb dX12_bigDiffer_68 rfl (lv_at hl 1 rfl) ?_
        refine lv_iload hx hb dX12_bigDiffer_69 (lv_at hl 6 rfl) ?_
        have hFc := mw_free hD hS hA
        refine va_calli (va_runV (As := [.int (hz_i y1), .int (hz_i x6)]) (rest := []) ⟨hx, hb, hml, hown, hts⟩ (k_bigAt l D _ om R C z A y1 x6 _ hw) (cwV 2 hts gX12_bigDiffer_X12_bigAt rfl rfl rfl (by decide +kernel) ⟨Nat.le_of_ble_eq_true rfl, Nat.le_of_ble_eq_true rfl⟩) ⟨hm_blind, va_recv hK hP (ci := 12) (q0 := 0) rfl rfl, hm_pre hP hK hD hE⟩ rfl rfl hl.1 rfl (lv_room (Nat.le_of_ble_eq_true rfl)) dX12_bigDiffer_71 ⟨Nat.le_of_ble_eq_true rfl, Nat.le_of_ble_eq_true rfl⟩) hS (fun q _ h => hFc q h) hFc (fun rv u t H1 locs ht hvm hw hB hz1 hk1 hS => ?_)
        obtain ⟨r_12, _, _⟩ := u
        obtain ⟨hP, hK1, hD1⟩ := hB
        rw [ht] at hP
        obtain ⟨hrv, hw⟩ := hw
        subst hrv
        have hD := hD1.weaken (fun k q _ h => hFc q.1 h)
        have hP : va_P D vwCl (mw_w om R C z A) H1 := hP
        have hD : va_D Ad (mw_w om R C z A) := hD
        generalize H1 = H at hP hS ⊢
        refine W.eq (g2 := F0 m 74 ls [.int (hz_i r_12)]) rfl ?_
        refine lv_aload_n hx hb dX12_bigDiffer_74 rfl (lv_at hl 0 rfl) ?_
        refine lv_iload_n hx hb dX12_bigDiffer_75 rfl (lv_at hl 2 rfl) ?_
        refine lv_iload hx hb dX12_bigDiffer_76 (lv_at hl 6 rfl) ?_
        have hFc := mw_free hD hS hA
        refine va_calli (va_runV (As := [.int (hz_i y2), .int (hz_i x6)]) (rest := [.int (hz_i r_12)]) ⟨hx, hb, hml, hown, hts⟩ (k_bigAt l D _ om R C z A y2 x6 _ hw) (cwV 2 hts gX12_bigDiffer_X12_bigAt rfl rfl rfl (by decide +kernel) ⟨Nat.le_of_ble_eq_true rfl, Nat.le_of_ble_eq_true rfl⟩) ⟨hm_blind, va_recv hK hP (ci := 12) (q0 := 0) rfl rfl, hm_pre hP hK hD hE⟩ rfl rfl hl.1 rfl (lv_room (Nat.le_of_ble_eq_true rfl)) dX12_bigDiffer_78 ⟨Nat.le_of_ble_eq_true rfl, Nat.le_of_ble_eq_true rfl⟩) hS (fun q _ h => hFc q h) hFc (fun rv u t H1 locs ht hvm hw hB hz1 hk1 hS => ?_)
        obtain ⟨r_13, _, _⟩ := u
        obtain ⟨hP, hK1, hD1⟩ := hB
        rw [ht] at hP
        obtain ⟨hrv, hw⟩ := hw
        subst hrv
        have hD := hD1.weaken (fun k q _ h => hFc q.1 h)
        have hP : va_P D vwCl (mw_w om R C z A) H1 := hP
        have hD : va_D Ad (mw_w om R C z A) := hD
        generalize H1 = H at hP hS ⊢
        refine W.eq (g2 := F0 m 81 ls [.int (hz_i r_13), .int (hz_i r_12)]) rfl ?_
        refine hz_isub hx hb dX12_bigDiffer_81 ?_
        exact L82 A x5 x6 (r_12 - r_13) hw H locs ls hP hD hS (lv_sub hl [0, 1, 2, 3, 4, 5, 6] rfl)
      · have hw := hw.2 c_11
        refine lv_aload_n hx hb dX12_bigDiffer_49 rfl (lv_at hl 0 rfl) ?_
        refine lv_iload_n hx hb dX12_bigDiffer_50 rfl (lv_at hl 2 rfl) ?_
        refine lv_iload hx hb dX12_bigDiffer_51 (lv_at hl 6 rfl) ?_
        have hFc := mw_free hD hS hA
        refine va_calli (va_runV (As := [.int (hz_i y2), .int (hz_i x6)]) (rest := []) ⟨hx, hb, hml, hown, hts⟩ (k_bigAt l D _ om R C z A y2 x6 _ hw) (cwV 2 hts gX12_bigDiffer_X12_bigAt rfl rfl rfl (by decide +kernel) ⟨Nat.le_of_ble_eq_true rfl, Nat.le_of_ble_eq_true rfl⟩) ⟨hm_blind, va_recv hK hP (ci := 12) (q0 := 0) rfl rfl, hm_pre hP hK hD hE⟩ rfl rfl hl.1 rfl (lv_room (Nat.le_of_ble_eq_true rfl)) dX12_bigDiffer_53 ⟨Nat.le_of_ble_eq_true rfl, Nat.le_of_ble_eq_true rfl⟩) hS (fun q _ h => hFc q h) hFc (fun rv u t H1 locs ht hvm hw hB hz1 hk1 hS => ?_)
        obtain ⟨r_14, _, _⟩ := u
        obtain ⟨hP, hK1, hD1⟩ := hB
        rw [ht] at hP
        obtain ⟨hrv, hw⟩ := hw
        subst hrv
        have hD := hD1.weaken (fun k q _ h => hFc q.1 h)
        have hP : va_P D vwCl (mw_w om R C z A) H1 := hP
        have hD : va_D Ad (mw_w om R C z A) := hD
        generalize H1 = H at hP hS ⊢
        refine W.eq (g2 := F0 m 56 ls [.int (hz_i r_14)]) rfl ?_
        refine lv_aload_n hx hb dX12_bigDiffer_56 rfl (lv_at hl 0 rfl) ?_
        refine lv_iload_n hx hb dX12_bigDiffer_57 rfl (lv_at hl 1 rfl) ?_
        refine lv_iload hx hb dX12_bigDiffer_58 (lv_at hl 6 rfl) ?_
        have hFc := mw_free hD hS hA
        refine va_calli (va_runV (As := [.int (hz_i y1), .int (hz_i x6)]) (rest := [.int (hz_i r_14)]) ⟨hx, hb, hml, hown, hts⟩ (k_bigAt l D _ om R C z A y1 x6 _ hw) (cwV 2 hts gX12_bigDiffer_X12_bigAt rfl rfl rfl (by decide +kernel) ⟨Nat.le_of_ble_eq_true rfl, Nat.le_of_ble_eq_true rfl⟩) ⟨hm_blind, va_recv hK hP (ci := 12) (q0 := 0) rfl rfl, hm_pre hP hK hD hE⟩ rfl rfl hl.1 rfl (lv_room (Nat.le_of_ble_eq_true rfl)) dX12_bigDiffer_60 ⟨Nat.le_of_ble_eq_true rfl, Nat.le_of_ble_eq_true rfl⟩) hS (fun q _ h => hFc q h) hFc (fun rv u t H1 locs ht hvm hw hB hz1 hk1 hS => ?_)
        obtain ⟨r_15, _, _⟩ := u
        obtain ⟨hP, hK1, hD1⟩ := hB
        rw [ht] at hP
        obtain ⟨hrv, hw⟩ := hw
        subst hrv
        have hD := hD1.weaken (fun k q _ h => hFc q.1 h)
        have hP : va_P D vwCl (mw_w om R C z A) H1 := hP
        have hD : va_D Ad (mw_w om R C z A) := hD
        generalize H1 = H at hP hS ⊢
        refine W.eq (g2 := F0 m 63 ls [.int (hz_i r_15), .int (hz_i r_14)]) rfl ?_
        refine hz_isub hx hb dX12_bigDiffer_63 ?_
        refine lv_goto (tgt := 82) hx hb dX12_bigDiffer_64 (by decide) ?_
        exact L82 A x5 x6 (r_14 - r_15) hw H locs ls hP hD hS (lv_sub hl [0, 1, 2, 3, 4, 5, 6] rfl)
  have L30 : ∀ (A : Nat → Nat → Int) (t0 : Int), wp_bigDiffer_30 z A y1 y2 y3 t0  Q → ∀ (H : Heap) (locs : List Loc) (ls : Array Slot), va_P D vwCl (mw_w om R C z A) H → va_D Ad (mw_w om R C z A) → va_S Ad s.heap H locs → lv_has ls 8 [(0, .ref om), (1, .int (hz_i y1)), (2, .int (hz_i y2)), (3, .int (hz_i y3))] → W p l e (headSpec wsX12_bigDiffer ({ frames := 2, cells := 0, slots := 0, locals := 42 } : Room)).room s m (List.toArray [.ref om, .int (hz_i y1), .int (hz_i y2), .int (hz_i y3)]) below meth c H locs 0 0 QQ (F0 m 30 ls [.int (hz_i t0)]) := by
    intro A t0 hw H locs ls hP hD hS hl
    refine lv_istore (lv' := [(4, .int (hz_i t0)), (0, .ref om), (1, .int (hz_i y1)), (2, .int (hz_i y2)), (3, .int (hz_i y3))]) hx hb dX12_bigDiffer_30 hl (by decide) rfl (fun ls hl => ?_)
    refine lv_iconst (v := hz_i 0) hx hb dX12_bigDiffer_32 (by decide +kernel) ?_
    refine lv_istore (lv' := [(5, .int (hz_i 0)), (4, .int (hz_i t0)), (0, .ref om), (1, .int (hz_i y1)), (2, .int (hz_i y2)), (3, .int (hz_i y3))]) hx hb dX12_bigDiffer_33 hl (by decide) rfl (fun ls hl => ?_)
    refine lv_iconst (v := hz_i 0) hx hb dX12_bigDiffer_35 (by decide +kernel) ?_
    refine lv_istore (lv' := [(6, .int (hz_i 0)), (5, .int (hz_i 0)), (4, .int (hz_i t0)), (0, .ref om), (1, .int (hz_i y1)), (2, .int (hz_i y2)), (3, .int (hz_i y3))]) hx hb dX12_bigDiffer_36 hl (by decide) rfl (fun ls hl => ?_)
    exact L38 A t0 0 0 hw H locs ls hP hD hS (lv_sub hl [3, 4, 5, 6, 2, 1, 0] rfl)
  have hP := hP0; have hD := hD0; have hS := hS0; have hl := hl0; have hw := hw0
  obtain ⟨H, hH⟩ : ∃ H : Heap, H = s.heap := ⟨_, rfl⟩
  obtain ⟨locs, hlocs⟩ : ∃ L : List Loc, L = [] := ⟨_, rfl⟩
  rw [← hH] at hP
  have hS : va_S Ad s.heap H locs := by rw [hH, hlocs]; exact hS
  refine mw_HL hH hlocs ?_
  refine lv_aload_n hx hb dX12_bigDiffer_0 rfl (lv_at hl 0 rfl) ?_
  refine mw_get (v := .ref (R 1)) hx hb hts hin12 hown hK hP 1 (by decide) (hts (.fieldLink RX12 18 "HiddenMovesModel" "lengths" "[I") (List.mem_cons_of_mem _ (List.mem_append_left _ (List.mem_of_getElem? (i := 0) rfl)))) (fun _ h9 => h9) rfl dX12_bigDiffer_1 ?_
  refine lv_iload_n hx hb dX12_bigDiffer_4 rfl (lv_at hl 1 rfl) ?_
  obtain ⟨h9i, hw⟩ := hw
  refine mw_ild (k := 1) (n := 4250) (i := y1) hx hb hK hP 2 1 rfl rfl h9i (by decide) dX12_bigDiffer_5 ?_
  refine lv_aload_n hx hb dX12_bigDiffer_6 rfl (lv_at hl 0 rfl) ?_
  refine mw_get (v := .ref (R 1)) hx hb hts hin12 hown hK hP 1 (by decide) (hts (.fieldLink RX12 18 "HiddenMovesModel" "lengths" "[I") (List.mem_cons_of_mem _ (List.mem_append_left _ (List.mem_of_getElem? (i := 0) rfl)))) (fun _ h9 => h9) rfl dX12_bigDiffer_7 ?_
  refine lv_iload_n hx hb dX12_bigDiffer_10 rfl (lv_at hl 2 rfl) ?_
  obtain ⟨h9i, hw⟩ := hw
  refine mw_ild (k := 1) (n := 4250) (i := y2) hx hb hK hP 2 1 rfl rfl h9i (by decide) dX12_bigDiffer_11 ?_
  obtain ⟨h9a, hw⟩ := hw
  obtain ⟨h9b, hw⟩ := hw
  refine hz_icmp_le (tgt := 24) hx hb dX12_bigDiffer_12 (by decide) h9a h9b (fun c_16 => ?_) (fun c_16 => ?_)
  · have hw := hw.1 c_16
    refine lv_aload_n hx hb dX12_bigDiffer_24 rfl (lv_at hl 0 rfl) ?_
    refine mw_get (v := .ref (R 1)) hx hb hts hin12 hown hK hP 1 (by decide) (hts (.fieldLink RX12 18 "HiddenMovesModel" "lengths" "[I") (List.mem_cons_of_mem _ (List.mem_append_left _ (List.mem_of_getElem? (i := 0) rfl)))) (fun _ h9 => h9) rfl dX12_bigDiffer_25 ?_
    refine lv_iload_n hx hb dX12_bigDiffer_28 rfl (lv_at hl 2 rfl) ?_
    obtain ⟨h9i, hw⟩ := hw
    refine mw_ild (k := 1) (n := 4250) (i := y2) hx hb hK hP 2 1 rfl rfl h9i (by decide) dX12_bigDiffer_29 ?_
    exact L30 A (A 1 (y2.toNat)) hw H locs ls hP hD hS (lv_sub hl [0, 1, 2, 3] rfl)
  · have hw := hw.2 c_16
    refine lv_aload_n hx hb dX12_bigDiffer_15 rfl (lv_at hl 0 rfl) ?_
    refine mw_get (v := .ref (R 1)) hx hb hts hin12 hown hK hP 1 (by decide) (hts (.fieldLink RX12 18 "HiddenMovesModel" "lengths" "[I") (List.mem_cons_of_mem _ (List.mem_append_left _ (List.mem_of_getElem? (i := 0) rfl)))) (fun _ h9 => h9) rfl dX12_bigDiffer_16 ?_
    refine lv_iload_n hx hb dX12_bigDiffer_19 rfl (lv_at hl 1 rfl) ?_
    obtain ⟨h9i, hw⟩ := hw
    refine mw_ild (k := 1) (n := 4250) (i := y1) hx hb hK hP 2 1 rfl rfl h9i (by decide) dX12_bigDiffer_20 ?_
    refine lv_goto (tgt := 30) hx hb dX12_bigDiffer_21 (by decide) ?_
    exact L30 A (A 1 (y1.toNat)) hw H locs ls hP hD hS (lv_sub hl [0, 1, 2, 3] rfl)

noncomputable def wp_bigAdd_71 (z : Nat → Int) (A : Nat → Nat → Int) (Q : (Nat → Nat → Int) → Prop) : Prop := Q A
noncomputable def wp_bigAdd_15 (z : Nat → Int) (A : Nat → Nat → Int) (y1 : Int) (y2 : Int) (t0 : Int) (Q : (Nat → Nat → Int) → Prop) : Prop := (0 ≤ y1 ∧ y1 < 4250) ∧ hz_rI (A 2 (y1.toNat)) ∧ hz_rI t0 ∧ ((¬ A 2 (y1.toNat) = t0 → wp_bigSizes z A y1 y2 (fun r_2 => hz_rI r_2 ∧ ((r_2 < 0 → wp_bigDiffer z A y1 y2 1 (fun A_5 => (0 ≤ y1 ∧ y1 < 4250) ∧ (t0 = 0 ∨ t0 = 1) ∧ ∀ A_6 : Nat → Nat → Int, A_6 = hz_s A_5 2 y1 t0 → wp_bigAdd_71 z A_6  Q)) ∧ (¬ (r_2 < 0) → wp_bigDiffer z A y1 y2 0 (fun A_8 => wp_bigAdd_71 z A_8  Q))))) ∧ (A 2 (y1.toNat) = t0 → wp_bigMore z A y1 y2 (fun A_10 => wp_bigAdd_71 z A_10  Q)))
noncomputable def wp_bigAdd (z : Nat → Int) (A : Nat → Nat → Int) (y1 : Int) (y2 : Int) (y3 : Int) (Q : (Nat → Nat → Int) → Prop) : Prop := (0 ≤ y2 ∧ y2 < 4250) ∧ hz_rI (A 2 (y2.toNat)) ∧ hz_rI y3 ∧ ((A 2 (y2.toNat) = y3 → wp_bigAdd_15 z A y1 y2 0  Q) ∧ (¬ (A 2 (y2.toNat) = y3) → wp_bigAdd_15 z A y1 y2 1  Q))
set_option maxHeartbeats 4000000 in
set_option maxRecDepth 100000 in
theorem k_bigAdd (l : Launch) (D : va_G) (sz : Nat) (om : Nat) (R : Nat → Nat) (C : Nat → ClassId) (z : Nat → Int) (A : Nat → Nat → Int) (y1 : Int) (y2 : Int) (y3 : Int) (Q : (Nat → Nat → Int) → Prop) (hw : wp_bigAdd z A y1 y2 y3 Q) : Met l yX12_bigAdd wsX12_bigAdd ({ frames := 3, cells := 0, slots := 0, locals := 69 } : Room) (va_Pc [.ref om, .int (hz_i y1), .int (hz_i y2), .int (hz_i y3)] (hm_P D (mw_w om R C z A) (mw_t C) sz)) (va_Qv (S := Int × (Nat → Int) × (Nat → Nat → Int)) (fun u => Q u.2.2) (fun u t => hm_B D (va_A (mw_w om R C z A) sz) (mw_w om R C z u.2.2) (mw_t C) t) (va_A (mw_w om R C z A) sz)) 0 0 (va_A (mw_w om R C z A) sz) := by
  refine Met.ofW (cc := cX12_bigAdd) (maxL := 5) (ret := none) (by decide) rfl ?_
  intro p e s m args below meth c s₁ B hml hv
  obtain ⟨rfl, hsz, hP, hK, hD0, hE⟩ := hv
  have hx := B.exec
  have hb := B.bytes
  have hr := B.returns
  have hts := atoms_spec (ws := wsX12_bigAdd) B.pre
  have hown : s.vm.findClass RX12 = some m.cls := findClass_of_methodNamed B.named
  have hlocks := B.notSynchronized
  have hin12 : ∀ w ∈ u_ws RX12 TX12 58, w ∈ wsX12_bigAdd := fun w h => List.mem_cons_of_mem _ (List.mem_append_right _ (h))
  subst hsz
  have hD := hD0.self (sz := s.heap.size)
  generalize hAe : va_A (mw_w om R C z A) s.heap.size = Ad at hD ⊢
  have hA : ∀ q : Nat, s.heap.size ≤ q → Ad q := fun q h => by rw [← hAe]; exact Or.inr h
  have hS : va_S Ad s.heap s.heap [] := va_S.rf
  have hl := lv_entry ([.ref om, .int (hz_i y1), .int (hz_i y2), .int (hz_i y3)]) (n := 5) (Nat.le_of_ble_eq_true rfl)
  rw [lg_entry_eq]
  generalize (lg_sl ([.ref om, .int (hz_i y1), .int (hz_i y2), .int (hz_i y3)]) ++ List.replicate (5 - (lg_sl ([.ref om, .int (hz_i y1), .int (hz_i y2), .int (hz_i y3)])).length) Slot.unset).toArray = ls at hl ⊢
  have hl : lv_has ls 5 [(0, .ref om), (1, .int (hz_i y1)), (2, .int (hz_i y2)), (3, .int (hz_i y3))] := hl
  refine mw_Q (fun QQ hQQ => ?_)
  have hP0 := hP; have hD0 := hD; have hS0 := hS; have hl0 := hl; have hw0 := hw
  clear hP hD hS hl hw
  have L71 : ∀ (A : Nat → Nat → Int), wp_bigAdd_71 z A  Q → ∀ (H : Heap) (locs : List Loc) (ls : Array Slot), va_P D vwCl (mw_w om R C z A) H → va_D Ad (mw_w om R C z A) → va_S Ad s.heap H locs → lv_has ls 5 [(0, .ref om)] → W p l e (headSpec wsX12_bigAdd ({ frames := 3, cells := 0, slots := 0, locals := 69 } : Room)).room s m (List.toArray [.ref om, .int (hz_i y1), .int (hz_i y2), .int (hz_i y3)]) below meth c H locs 0 0 QQ (F0 m 71 ls []) := by
    intro A hw H locs ls hP hD hS hl
    subst hQQ
    subst hAe
    exact W.vret hx hb hr (fun t ht hW => ⟨⟨(0, z, A), rfl, hw, by rw [ht]; exact hP, va_K.moved hW.alike hK, hD⟩, hS.F ht⟩) hS.2.2 dX12_bigAdd_71
  have L15 : ∀ (A : Nat → Nat → Int) (t0 : Int), wp_bigAdd_15 z A y1 y2 t0  Q → ∀ (H : Heap) (locs : List Loc) (ls : Array Slot), va_P D vwCl (mw_w om R C z A) H → va_D Ad (mw_w om R C z A) → va_S Ad s.heap H locs → lv_has ls 5 [(0, .ref om), (1, .int (hz_i y1)), (2, .int (hz_i y2))] → W p l e (headSpec wsX12_bigAdd ({ frames := 3, cells := 0, slots := 0, locals := 69 } : Room)).room s m (List.toArray [.ref om, .int (hz_i y1), .int (hz_i y2), .int (hz_i y3)]) below meth c H locs 0 0 QQ (F0 m 15 ls [.int (hz_i t0)]) := by
    intro A t0 hw H locs ls hP hD hS hl
    refine lv_istore (lv' := [(4, .int (hz_i t0)), (0, .ref om), (1, .int (hz_i y1)), (2, .int (hz_i y2))]) hx hb dX12_bigAdd_15 hl (by decide) rfl (fun ls hl => ?_)
    refine lv_aload_n hx hb dX12_bigAdd_17 rfl (lv_at hl 1 rfl) ?_
    refine mw_get (v := .ref (R 2)) hx hb hts hin12 hown hK hP 2 (by decide) (hts (.fieldLink RX12 4 "HiddenMovesModel" "minus" "[Z") (List.mem_cons_of_mem _ (List.mem_append_left _ (List.mem_append_left _ (List.mem_of_getElem? (i := 0) rfl))))) (fun _ h9 => h9) rfl dX12_bigAdd_18 ?_
    refine lv_iload_n hx hb dX12_bigAdd_21 rfl (lv_at hl 2 rfl) ?_
    obtain ⟨h9i, hw⟩ := hw
    refine mw_zld (k := 2) (n := 4250) (i := y1) hx hb hK hP 3 2 rfl rfl h9i (by decide) dX12_bigAdd_22 ?_
    refine lv_iload hx hb dX12_bigAdd_23 (lv_at hl 0 rfl) ?_
    obtain ⟨h9a, hw⟩ := hw
    obtain ⟨h9b, hw⟩ := hw
    refine hz_icmp_ne (tgt := 37) hx hb dX12_bigAdd_25 (by decide) h9a h9b (fun c_1 => ?_) (fun c_1 => ?_)
    · have hw := hw.1 c_1
      refine lv_aload_n hx hb dX12_bigAdd_37 rfl (lv_at hl 1 rfl) ?_
      refine lv_iload_n hx hb dX12_bigAdd_38 rfl (lv_at hl 2 rfl) ?_
      refine lv_iload_n hx hb dX12_bigAdd_39 rfl (lv_at hl 3 rfl) ?_
      have hFc := mw_free hD hS hA
      refine va_calli (va_runV (As := [.int (hz_i y1), .int (hz_i y2)]) (rest := []) ⟨hx, hb, hml, hown, hts⟩ (k_bigSizes l D _ om R C z A y1 y2 _ hw) (cwV 2 hts gX12_bigAdd_X12_bigSizes rfl rfl rfl (by decide +kernel) ⟨Nat.le_of_ble_eq_true rfl, Nat.le_of_ble_eq_true rfl⟩) ⟨hm_blind, va_recv hK hP (ci := 12) (q0 := 0) rfl rfl, hm_pre hP hK hD hE⟩ rfl rfl hl.1 rfl (lv_room (Nat.le_of_ble_eq_true rfl)) dX12_bigAdd_40 ⟨Nat.le_of_ble_eq_true rfl, Nat.le_of_ble_eq_true rfl⟩) hS (fun q _ h => hFc q h) hFc (fun rv u t H1 locs ht hvm hw hB hz1 hk1 hS => ?_)
      obtain ⟨r_2, _, _⟩ := u
      obtain ⟨hP, hK1, hD1⟩ := hB
      rw [ht] at hP
      obtain ⟨hrv, hw⟩ := hw
      subst hrv
      have hD := hD1.weaken (fun k q _ h => hFc q.1 h)
      have hP : va_P D vwCl (mw_w om R C z A) H1 := hP
      have hD : va_D Ad (mw_w om R C z A) := hD
      generalize H1 = H at hP hS ⊢
      refine W.eq (g2 := F0 m 43 ls [.int (hz_i r_2)]) rfl ?_
      obtain ⟨h9a, hw⟩ := hw
      refine hz_if_lt (tgt := 56) hx hb dX12_bigAdd_43 (by decide) h9a (fun c_3 => ?_) (fun c_3 => ?_)
      · have hw := hw.1 c_3
        refine lv_aload_n hx hb dX12_bigAdd_56 rfl (lv_at hl 1 rfl) ?_
        refine lv_iload_n hx hb dX12_bigAdd_57 rfl (lv_at hl 2 rfl) ?_
        refine lv_iload_n hx hb dX12_bigAdd_58 rfl (lv_at hl 3 rfl) ?_
        refine lv_iconst (v := hz_i 1) hx hb dX12_bigAdd_59 (by decide +kernel) ?_
        have hFc := mw_free hD hS hA
        refine va_callv (va_runV (As := [.int (hz_i y1), .int (hz_i y2), .int (hz_i 1)]) (rest := []) ⟨hx, hb, hml, hown, hts⟩ (k_bigDiffer l D _ om R C z A y1 y2 1 _ hw) (cwV 3 hts gX12_bigAdd_X12_bigDiffer rfl rfl rfl (by decide +kernel) ⟨Nat.le_of_ble_eq_true rfl, Nat.le_of_ble_eq_true rfl⟩) ⟨hm_blind, va_recv hK hP (ci := 12) (q0 := 0) rfl rfl, hm_pre hP hK hD hE⟩ rfl rfl hl.1 rfl (lv_room (Nat.le_of_ble_eq_true rfl)) dX12_bigAdd_60 ⟨Nat.le_of_ble_eq_true rfl, Nat.le_of_ble_eq_true rfl⟩) hS (fun q _ h => hFc q h) hFc (fun u t H1 locs ht hvm hw hB hz1 hk1 hS => ?_)
        obtain ⟨r_4, _, A_5⟩ := u
        obtain ⟨hP, hK1, hD1⟩ := hB
        rw [ht] at hP
        have hD := hD1.weaken (fun k q _ h => hFc q.1 h)
        have hP : va_P D vwCl (mw_w om R C z A_5) H1 := hP
        have hD : va_D Ad (mw_w om R C z A_5) := hD
        generalize H1 = H at hP hS ⊢
        refine W.eq (g2 := F0 m 63 ls []) rfl ?_
        refine lv_aload_n hx hb dX12_bigAdd_63 rfl (lv_at hl 1 rfl) ?_
        refine mw_get (v := .ref (R 2)) hx hb hts hin12 hown hK hP 2 (by decide) (hts (.fieldLink RX12 4 "HiddenMovesModel" "minus" "[Z") (List.mem_cons_of_mem _ (List.mem_append_left _ (List.mem_append_left _ (List.mem_of_getElem? (i := 0) rfl))))) (fun _ h9 => h9) rfl dX12_bigAdd_64 ?_
        refine lv_iload_n hx hb dX12_bigAdd_67 rfl (lv_at hl 2 rfl) ?_
        refine lv_iload hx hb dX12_bigAdd_68 (lv_at hl 0 rfl) ?_
        obtain ⟨h9i, hw⟩ := hw
        obtain ⟨h9z, hw⟩ := hw
        refine mw_zst (k := 2) (n := 4250) (i := y1) (v := t0) hx hb hK hP hD hS 3 2 rfl rfl (mw_a2 om R C z A_5) h9i (by decide) h9z dX12_bigAdd_70 (fun H locs hP hD hS => ?_)
        obtain ⟨A_6, hA_6⟩ : ∃ y : Nat → Nat → Int, y = hz_s A_5 2 y1 t0 := ⟨_, rfl⟩
        rw [← hA_6] at hP hD
        have hw := hw A_6 hA_6
        exact L71 A_6 hw H locs ls hP hD hS (lv_sub hl [1] rfl)
      · have hw := hw.2 c_3
        refine lv_aload_n hx hb dX12_bigAdd_46 rfl (lv_at hl 1 rfl) ?_
        refine lv_iload_n hx hb dX12_bigAdd_47 rfl (lv_at hl 2 rfl) ?_
        refine lv_iload_n hx hb dX12_bigAdd_48 rfl (lv_at hl 3 rfl) ?_
        refine lv_iconst (v := hz_i 0) hx hb dX12_bigAdd_49 (by decide +kernel) ?_
        have hFc := mw_free hD hS hA
        refine va_callv (va_runV (As := [.int (hz_i y1), .int (hz_i y2), .int (hz_i 0)]) (rest := []) ⟨hx, hb, hml, hown, hts⟩ (k_bigDiffer l D _ om R C z A y1 y2 0 _ hw) (cwV 3 hts gX12_bigAdd_X12_bigDiffer rfl rfl rfl (by decide +kernel) ⟨Nat.le_of_ble_eq_true rfl, Nat.le_of_ble_eq_true rfl⟩) ⟨hm_blind, va_recv hK hP (ci := 12) (q0 := 0) rfl rfl, hm_pre hP hK hD hE⟩ rfl rfl hl.1 rfl (lv_room (Nat.le_of_ble_eq_true rfl)) dX12_bigAdd_50 ⟨Nat.le_of_ble_eq_true rfl, Nat.le_of_ble_eq_true rfl⟩) hS (fun q _ h => hFc q h) hFc (fun u t H1 locs ht hvm hw hB hz1 hk1 hS => ?_)
        obtain ⟨r_7, _, A_8⟩ := u
        obtain ⟨hP, hK1, hD1⟩ := hB
        rw [ht] at hP
        have hD := hD1.weaken (fun k q _ h => hFc q.1 h)
        have hP : va_P D vwCl (mw_w om R C z A_8) H1 := hP
        have hD : va_D Ad (mw_w om R C z A_8) := hD
        generalize H1 = H at hP hS ⊢
        refine W.eq (g2 := F0 m 53 ls []) rfl ?_
        refine lv_goto (tgt := 71) hx hb dX12_bigAdd_53 (by decide) ?_
        exact L71 A_8 hw H locs ls hP hD hS (lv_sub hl [1] rfl)
    · have hw := hw.2 c_1
      refine lv_aload_n hx hb dX12_bigAdd_28 rfl (lv_at hl 1 rfl) ?_
      refine lv_iload_n hx hb dX12_bigAdd_29 rfl (lv_at hl 2 rfl) ?_
      refine lv_iload_n hx hb dX12_bigAdd_30 rfl (lv_at hl 3 rfl) ?_
      have hFc := mw_free hD hS hA
      refine va_callv (va_runV (As := [.int (hz_i y1), .int (hz_i y2)]) (rest := []) ⟨hx, hb, hml, hown, hts⟩ (k_bigMore l D _ om R C z A y1 y2 _ hw) (cwV 2 hts gX12_bigAdd_X12_bigMore rfl rfl rfl (by decide +kernel) ⟨Nat.le_of_ble_eq_true rfl, Nat.le_of_ble_eq_true rfl⟩) ⟨hm_blind, va_recv hK hP (ci := 12) (q0 := 0) rfl rfl, hm_pre hP hK hD hE⟩ rfl rfl hl.1 rfl (lv_room (Nat.le_of_ble_eq_true rfl)) dX12_bigAdd_31 ⟨Nat.le_of_ble_eq_true rfl, Nat.le_of_ble_eq_true rfl⟩) hS (fun q _ h => hFc q h) hFc (fun u t H1 locs ht hvm hw hB hz1 hk1 hS => ?_)
      obtain ⟨r_9, _, A_10⟩ := u
      obtain ⟨hP, hK1, hD1⟩ := hB
      rw [ht] at hP
      have hD := hD1.weaken (fun k q _ h => hFc q.1 h)
      have hP : va_P D vwCl (mw_w om R C z A_10) H1 := hP
      have hD : va_D Ad (mw_w om R C z A_10) := hD
      generalize H1 = H at hP hS ⊢
      refine W.eq (g2 := F0 m 34 ls []) rfl ?_
      refine lv_goto (tgt := 71) hx hb dX12_bigAdd_34 (by decide) ?_
      exact L71 A_10 hw H locs ls hP hD hS (lv_sub hl [1] rfl)
  have hP := hP0; have hD := hD0; have hS := hS0; have hl := hl0; have hw := hw0
  obtain ⟨H, hH⟩ : ∃ H : Heap, H = s.heap := ⟨_, rfl⟩
  obtain ⟨locs, hlocs⟩ : ∃ L : List Loc, L = [] := ⟨_, rfl⟩
  rw [← hH] at hP
  have hS : va_S Ad s.heap H locs := by rw [hH, hlocs]; exact hS
  refine mw_HL hH hlocs ?_
  refine lv_aload_n hx hb dX12_bigAdd_0 rfl (lv_at hl 0 rfl) ?_
  refine mw_get (v := .ref (R 2)) hx hb hts hin12 hown hK hP 2 (by decide) (hts (.fieldLink RX12 4 "HiddenMovesModel" "minus" "[Z") (List.mem_cons_of_mem _ (List.mem_append_left _ (List.mem_append_left _ (List.mem_of_getElem? (i := 0) rfl))))) (fun _ h9 => h9) rfl dX12_bigAdd_1 ?_
  refine lv_iload_n hx hb dX12_bigAdd_4 rfl (lv_at hl 2 rfl) ?_
  obtain ⟨h9i, hw⟩ := hw
  refine mw_zld (k := 2) (n := 4250) (i := y2) hx hb hK hP 3 2 rfl rfl h9i (by decide) dX12_bigAdd_5 ?_
  refine lv_iload_n hx hb dX12_bigAdd_6 rfl (lv_at hl 3 rfl) ?_
  obtain ⟨h9a, hw⟩ := hw
  obtain ⟨h9b, hw⟩ := hw
  refine hz_icmp_eq (tgt := 14) hx hb dX12_bigAdd_7 (by decide) h9a h9b (fun c_11 => ?_) (fun c_11 => ?_)
  · have hw := hw.1 c_11
    refine lv_iconst (v := hz_i 0) hx hb dX12_bigAdd_14 (by decide +kernel) ?_
    exact L15 A 0 hw H locs ls hP hD hS (lv_sub hl [0, 1, 2] rfl)
  · have hw := hw.2 c_11
    refine lv_iconst (v := hz_i 1) hx hb dX12_bigAdd_10 (by decide +kernel) ?_
    refine lv_goto (tgt := 15) hx hb dX12_bigAdd_11 (by decide) ?_
    exact L15 A 1 hw H locs ls hP hD hS (lv_sub hl [0, 1, 2] rfl)
