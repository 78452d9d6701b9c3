noncomputable def wp_over_271 (z : Nat → Int) (A : Nat → Nat → Int) (Q : (Nat → Int) → (Nat → Nat → Int) → Prop) : Prop := wp_stop z A 6 ((z 10) - 1) (fun z_2 => Q z_2 A)
noncomputable def wp_over_244 (z : Nat → Int) (A : Nat → Nat → Int) (x1 : Int) (x3 : Int) (t0 : Int) (t1 : Int) (P162 : (Nat → Nat → Int) → Int → Prop) (Q : (Nat → Int) → (Nat → Nat → Int) → Prop) : Prop := (0 ≤ t1 ∧ t1 < 800) ∧ ∀ A_3 : Nat → Nat → Int, A_3 = hz_s A 19 t1 t0 → (0 ≤ x3 ∧ x3 < 800) ∧ hz_rL (A_3 19 (x3.toNat)) ∧ ((1000000000 ≤ A_3 19 (x3.toNat) → wp_over_271 z A_3  Q) ∧ (¬ (1000000000 ≤ A_3 19 (x3.toNat)) → (0 ≤ x3 ∧ x3 < 800) ∧ hz_rL (A_3 19 (x3.toNat)) ∧ (((-1000000000) < A_3 19 (x3.toNat) → ∀ x3_6 : Int, x3_6 = x3 + 1 → P162 A_3 x3_6) ∧ (¬ ((-1000000000) < A_3 19 (x3.toNat)) → wp_over_271 z A_3  Q))))
noncomputable def wp_over_215 (z : Nat → Int) (A : Nat → Nat → Int) (x1 : Int) (x3 : Int) (x4 : Int) (t0 : Int) (P162 : (Nat → Nat → Int) → Int → Prop) (Q : (Nat → Int) → (Nat → Nat → Int) → Prop) : Prop := hz_rI t0 ∧ ((t0 = 0 → (0 ≤ x3 ∧ x3 < 800) ∧ ¬ A 18 (x3.toNat) = 0 ∧ hz_rL x1 ∧ hz_rL (A 18 (x3.toNat)) ∧ wp_over_244 z A x1 x3 ((x1.tdiv (A 18 (x3.toNat))) * x4) x3 P162 Q) ∧ (¬ (t0 = 0) → wp_over_244 z A x1 x3 1000000000 x3 P162 Q))
noncomputable def wp_over_210 (z : Nat → Int) (A : Nat → Nat → Int) (x1 : Int) (x3 : Int) (x4 : Int) (P162 : (Nat → Nat → Int) → Int → Prop) (Q : (Nat → Int) → (Nat → Nat → Int) → Prop) : Prop := wp_over_215 z A x1 x3 x4 1 P162 Q
noncomputable def wp_over_162 (z : Nat → Int) (A : Nat → Nat → Int) (x1 : Int) (x3 : Int) (Q : (Nat → Int) → (Nat → Nat → Int) → Prop) : Prop := ∀ P162 : (Nat → Nat → Int) → Int → Prop, (∀ (A : Nat → Nat → Int) (x3 : Int), (0 ≤ z 33 ∧ z 33 < 2) ∧ hz_rI x3 ∧ hz_rI ((400 * (z 33)) + (A 14 ((z 33).toNat))) ∧ (((400 * (z 33)) + (A 14 ((z 33).toNat)) ≤ x3 → Q z A) ∧ (¬ ((400 * (z 33)) + (A 14 ((z 33).toNat)) ≤ x3) → (0 ≤ x3 ∧ x3 < 800) ∧ ∀ x4_9 : Int, x4_9 = A 17 (x3.toNat) → hz_rL x4_9 ∧ ((1000000000 ≤ x4_9 → wp_over_210 z A x1 x3 x4_9 P162 Q) ∧ (¬ (1000000000 ≤ x4_9) → hz_rL x4_9 ∧ (((-1000000000) < x4_9 → wp_over_215 z A x1 x3 x4_9 0 P162 Q) ∧ (¬ ((-1000000000) < x4_9) → wp_over_210 z A x1 x3 x4_9 P162 Q)))))) → P162 A x3) → P162 A x3
noncomputable def wp_over_122 (z : Nat → Int) (A : Nat → Nat → Int) (x1 : Int) (Q : (Nat → Int) → (Nat → Nat → Int) → Prop) : Prop := hz_rL x1 ∧ ((x1 < 1000000000 → (0 ≤ z 33 ∧ z 33 < 2) ∧ ∀ A_13 : Nat → Nat → Int, A_13 = hz_s A 25 (z 33) x1 → ∀ x3_14 : Int, x3_14 = 400 * (z 33) → wp_over_162 z A_13 x1 x3_14  Q) ∧ (¬ (x1 < 1000000000) → wp_stop z A 6 ((z 10) - 1) (fun z_16 => Q z_16 A)))
noncomputable def wp_over_115 (z : Nat → Int) (A : Nat → Nat → Int) (x3 : Int) (t0 : Int) (P51 : Int → Int → Prop) (Q : (Nat → Int) → (Nat → Nat → Int) → Prop) : Prop := ∀ x3_17 : Int, x3_17 = x3 + 1 → P51 t0 x3_17
noncomputable def wp_over_51 (z : Nat → Int) (A : Nat → Nat → Int) (x1 : Int) (x3 : Int) (Q : (Nat → Int) → (Nat → Nat → Int) → Prop) : Prop := ∀ P51 : Int → Int → Prop, (∀ (x1 : Int) (x3 : Int), (0 ≤ z 33 ∧ z 33 < 2) ∧ hz_rI x3 ∧ hz_rI ((400 * (z 33)) + (A 14 ((z 33).toNat))) ∧ (((400 * (z 33)) + (A 14 ((z 33).toNat)) ≤ x3 → wp_over_122 z A x1  Q) ∧ (¬ ((400 * (z 33)) + (A 14 ((z 33).toNat)) ≤ x3) → hz_rL x1 ∧ ((1000000000 ≤ x1 → wp_over_122 z A x1  Q) ∧ (¬ (1000000000 ≤ x1) → (0 ≤ x3 ∧ x3 < 800) ∧ ∀ x4_20 : Int, x4_20 = A 18 (x3.toNat) → hz_rL x4_20 ∧ ((x4_20 < 1000000000 → wp_divisor z A x1 x4_20 (fun r_22 => ¬ r_22 = 0 ∧ hz_rL x1 ∧ hz_rL r_22 ∧ wp_over_115 z A x3 ((x1.tdiv r_22) * x4_20) P51 Q)) ∧ (¬ (x4_20 < 1000000000) → wp_over_115 z A x3 1000000000 P51 Q)))))) → P51 x1 x3) → P51 x1 x3
noncomputable def wp_over_28 (z : Nat → Int) (A : Nat → Nat → Int) (Q : (Nat → Int) → (Nat → Nat → Int) → Prop) : Prop := wp_stop z A 2 ((z 10) - 1) (fun z_24 => Q z_24 A)
noncomputable def wp_over (z : Nat → Int) (A : Nat → Nat → Int) (Q : (Nat → Int) → (Nat → Nat → Int) → Prop) : Prop := wp_plansOf z A (z 33) 0 (fun r_25 => hz_rI r_25 ∧ ((64 < r_25 → wp_over_28 z A  Q) ∧ (¬ (64 < r_25) → wp_plansOf z A (z 33) 1 (fun r_27 => hz_rI r_27 ∧ ((r_27 ≤ 64 → ∀ x3_29 : Int, x3_29 = 400 * (z 33) → wp_over_51 z A 1 x3_29  Q) ∧ (¬ (r_27 ≤ 64) → wp_over_28 z A  Q))))))
set_option maxHeartbeats 4000000 in
set_option maxRecDepth 100000 in
theorem k_over (l : Launch) (D : va_G) (sz : Nat) (om : Nat) (R : Nat → Nat) (C : Nat → ClassId) (z : Nat → Int) (A : Nat → Nat → Int) (Q : (Nat → Int) → (Nat → Nat → Int) → Prop) (hw : wp_over z A Q) : Met l yX12_over wsX12_over ({ frames := 1, cells := 0, slots := 0, locals := 29 } : Room) (va_Pc [.ref om] (hm_P D (mw_w om R C z A) (mw_t C) sz)) (va_Qv (S := Int × (Nat → Int) × (Nat → Nat → Int)) (fun u => Q u.2.1 u.2.2) (fun u t => hm_B D (va_A (mw_w om R C z A) sz) (mw_w om R C u.2.1 u.2.2) (mw_t C) t) (va_A (mw_w om R C z A) sz)) 0 0 (va_A (mw_w om R C z A) sz) := by
  refine Met.ofW (cc := cX12_over) (maxL := 7) (ret := none) (by decide) rfl ?_
  intro p e s m args below meth c s₁ B hml hv
  obtain ⟨rfl, hsz, hP, hK, hD0, hE⟩ := hv
  have hx := B.exec
  have hb := B.bytes
  have hr := B.returns
  have hts := atoms_spec (ws := wsX12_over) B.pre
  have hown : s.vm.findClass RX12 = some m.cls := findClass_of_methodNamed B.named
  have hlocks := B.notSynchronized
  have hin12 : ∀ w ∈ u_ws RX12 TX12 58, w ∈ wsX12_over := fun w h => List.mem_cons_of_mem _ (List.mem_append_right _ (h))
  subst hsz
  have hD := hD0.self (sz := s.heap.size)
  generalize hAe : va_A (mw_w om R C z A) s.heap.size = Ad at hD ⊢
  have hA : ∀ q : Nat, s.heap.size ≤ q → Ad q := fun q h => by rw [← hAe]; exact Or.inr h
  have hS : va_S Ad s.heap s.heap [] := va_S.rf
  have hl := lv_entry ([.ref om]) (n := 7) (Nat.le_of_ble_eq_true rfl)
  rw [lg_entry_eq]
  generalize (lg_sl ([.ref om]) ++ List.replicate (7 - (lg_sl ([.ref om])).length) Slot.unset).toArray = ls at hl ⊢
  have hl : lv_has ls 7 [(0, .ref om)] := hl
  refine mw_Q (fun QQ hQQ => ?_)
  have hP0 := hP; have hD0 := hD; have hS0 := hS; have hl0 := hl; have hw0 := hw
  clear hP hD hS hl hw
  have L271 : ∀ (z : Nat → Int) (A : Nat → Nat → Int), wp_over_271 z A  Q → ∀ (H : Heap) (locs : List Loc) (ls : Array Slot), va_P D vwCl (mw_w om R C z A) H → va_D Ad (mw_w om R C z A) → va_S Ad s.heap H locs → lv_has ls 7 [(0, .ref om)] → W p l e (headSpec wsX12_over ({ frames := 1, cells := 0, slots := 0, locals := 29 } : Room)).room s m (List.toArray [.ref om]) below meth c H locs 0 0 QQ (F0 m 271 ls []) := by
    intro z A hw H locs ls hP hD hS hl
    refine lv_aload_n hx hb dX12_over_271 rfl (lv_at hl 0 rfl) ?_
    refine lv_bipush (v := hz_i 6) hx hb dX12_over_272 (by decide +kernel) ?_
    refine lv_aload_n hx hb dX12_over_274 rfl (lv_at hl 0 rfl) ?_
    refine mw_get (v := .int (hz_i (z 10))) hx hb hts hin12 hown hK hP 10 (by decide) (hts (.fieldLink RX12 235 "HiddenMovesModel" "words" "I") (List.mem_cons_of_mem _ (List.mem_append_left _ (List.mem_append_left _ (List.mem_of_getElem? (i := 1) rfl))))) (fun _ h9 => h9) rfl dX12_over_275 ?_
    refine lv_iconst (v := hz_i 1) hx hb dX12_over_278 (by decide +kernel) ?_
    refine hz_isub hx hb dX12_over_279 ?_
    have hFc := mw_free hD hS hA
    refine va_callv (va_runV (As := [.int (hz_i 6), .int (hz_i ((z 10) - 1))]) (rest := []) ⟨hx, hb, hml, hown, hts⟩ (k_stop l D _ om R C z A 6 ((z 10) - 1) _ hw) (cwV 2 hts gX12_over_X12_stop rfl rfl rfl (by decide +kernel) ⟨Nat.le_of_ble_eq_true rfl, Nat.le_of_ble_eq_true rfl⟩) ⟨hm_blind, va_recv hK hP (ci := 12) (q0 := 0) rfl rfl, hm_pre hP hK hD hE⟩ rfl rfl hl.1 rfl (lv_room (Nat.le_of_ble_eq_true rfl)) dX12_over_280 ⟨Nat.le_of_ble_eq_true rfl, Nat.le_of_ble_eq_true rfl⟩) hS (fun q _ h => hFc q h) hFc (fun u t H1 locs ht hvm hw hB hz1 hk1 hS => ?_)
    obtain ⟨r_1, z_2, _⟩ := u
    obtain ⟨hP, hK1, hD1⟩ := hB
    rw [ht] at hP
    have hD := hD1.weaken (fun k q _ h => hFc q.1 h)
    have hP : va_P D vwCl (mw_w om R C z_2 A) H1 := hP
    have hD : va_D Ad (mw_w om R C z_2 A) := hD
    generalize H1 = H at hP hS ⊢
    refine W.eq (g2 := F0 m 283 ls []) rfl ?_
    subst hQQ
    subst hAe
    exact W.vret hx hb hr (fun t ht hW => ⟨⟨(0, z_2, A), rfl, hw, by rw [ht]; exact hP, va_K.moved hW.alike hK, hD⟩, hS.F ht⟩) hS.2.2 dX12_over_283
  have L162 : ∀ (z : Nat → Int) (A : Nat → Nat → Int) (x1 : Int) (x3 : Int), wp_over_162 z A x1 x3  Q → ∀ (H : Heap) (locs : List Loc) (ls : Array Slot), va_P D vwCl (mw_w om R C z A) H → va_D Ad (mw_w om R C z A) → va_S Ad s.heap H locs → lv_has ls 7 [(0, .ref om), (1, .long (hz_l x1)), (3, .int (hz_i x3))] → W p l e (headSpec wsX12_over ({ frames := 1, cells := 0, slots := 0, locals := 29 } : Room)).room s m (List.toArray [.ref om]) below meth c H locs 0 0 QQ (F0 m 162 ls []) := by
    intro z A x1 x3 hw
    obtain ⟨P162, hP162⟩ : ∃ P : (Nat → Nat → Int) → Int → Prop, ∀ (A : Nat → Nat → Int) (x3 : Int), P A x3 ↔ (∀ (H : Heap) (locs : List Loc) (ls : Array Slot), va_P D vwCl (mw_w om R C z A) H → va_D Ad (mw_w om R C z A) → va_S Ad s.heap H locs → lv_has ls 7 [(0, .ref om), (1, .long (hz_l x1)), (3, .int (hz_i x3))] → W p l e (headSpec wsX12_over ({ frames := 1, cells := 0, slots := 0, locals := 29 } : Room)).room s m (List.toArray [.ref om]) below meth c H locs 0 0 QQ (F0 m 162 ls [])) := ⟨fun (A : Nat → Nat → Int) (x3 : Int) => ∀ (H : Heap) (locs : List Loc) (ls : Array Slot), va_P D vwCl (mw_w om R C z A) H → va_D Ad (mw_w om R C z A) → va_S Ad s.heap H locs → lv_has ls 7 [(0, .ref om), (1, .long (hz_l x1)), (3, .int (hz_i x3))] → W p l e (headSpec wsX12_over ({ frames := 1, cells := 0, slots := 0, locals := 29 } : Room)).room s m (List.toArray [.ref om]) below meth c H locs 0 0 QQ (F0 m 162 ls []), fun _ _ => Iff.rfl⟩
    refine (hP162 A x3).mp (hw P162 ?_)
    intro A x3 hw
    refine (hP162 A x3).mpr ?_
    intro H locs ls hP hD hS hl
    have L244 : ∀ (A : Nat → Nat → Int) (x3 : Int) (t0 : Int) (t1 : Int), wp_over_244 z A x1 x3 t0 t1 P162 Q → ∀ (H : Heap) (locs : List Loc) (ls : Array Slot), va_P D vwCl (mw_w om R C z A) H → va_D Ad (mw_w om R C z A) → va_S Ad s.heap H locs → lv_has ls 7 [(0, .ref om), (1, .long (hz_l x1)), (3, .int (hz_i x3))] → W p l e (headSpec wsX12_over ({ frames := 1, cells := 0, slots := 0, locals := 29 } : Room)).room s m (List.toArray [.ref om]) below meth c H locs 0 0 QQ (F0 m 244 ls [.long (hz_l t0), .int (hz_i t1), .ref (R 19)]) := by
      intro A x3 t0 t1 hw H locs ls hP hD hS hl
      obtain ⟨h9i, hw⟩ := hw
      refine mw_lst (k := 19) (n := 800) (i := t1) (v := t0) hx hb hK hP hD hS 15 14 rfl rfl (mw_a19 om R C z A) h9i (by decide) dX12_over_244 (fun H locs hP hD hS => ?_)
      obtain ⟨A_3, hA_3⟩ : ∃ y : Nat → Nat → Int, y = hz_s A 19 t1 t0 := ⟨_, rfl⟩
      rw [← hA_3] at hP hD
      have hw := hw A_3 hA_3
      refine lv_aload_n hx hb dX12_over_245 rfl (lv_at hl 0 rfl) ?_
      refine mw_get (v := .ref (R 19)) hx hb hts hin12 hown hK hP 19 (by decide) (hts (.fieldLink RX12 133 "HiddenMovesModel" "weight" "[J") (List.mem_cons_of_mem _ (List.mem_append_left _ (List.mem_append_left _ (List.mem_of_getElem? (i := 8) rfl))))) (fun _ h9 => h9) rfl dX12_over_246 ?_
      refine lv_iload_n hx hb dX12_over_249 rfl (lv_at hl 2 rfl) ?_
      obtain ⟨h9i, hw⟩ := hw
      refine mw_lld (k := 19) (n := 800) (i := x3) hx hb hK hP 15 14 rfl rfl h9i (by decide) dX12_over_250 ?_
      refine lv_ldc2 hx hb hown (hts (.constantLong RX12 295 (1000000000)) (List.mem_cons_of_mem _ (List.mem_append_left _ (List.mem_append_left _ (List.mem_of_getElem? (i := 3) rfl))))) dX12_over_251 ?_
      refine hz_asl (b := 1000000000) (by decide +kernel) ?_
      obtain ⟨h9a, hw⟩ := hw
      refine hz_lcmp_ge (tgt := 271) hx hb dX12_over_254 dX12_over_255 (by decide) h9a ⟨by decide, by decide⟩ (fun c_4 => ?_) (fun c_4 => ?_)
      · have hw := hw.1 c_4
        exact L271 z A_3 hw H locs ls hP hD hS (lv_sub hl [0] rfl)
      · have hw := hw.2 c_4
        refine lv_aload_n hx hb dX12_over_258 rfl (lv_at hl 0 rfl) ?_
        refine mw_get (v := .ref (R 19)) hx hb hts hin12 hown hK hP 19 (by decide) (hts (.fieldLink RX12 133 "HiddenMovesModel" "weight" "[J") (List.mem_cons_of_mem _ (List.mem_append_left _ (List.mem_append_left _ (List.mem_of_getElem? (i := 8) rfl))))) (fun _ h9 => h9) rfl dX12_over_259 ?_
        refine lv_iload_n hx hb dX12_over_262 rfl (lv_at hl 2 rfl) ?_
        obtain ⟨h9i, hw⟩ := hw
        refine mw_lld (k := 19) (n := 800) (i := x3) hx hb hK hP 15 14 rfl rfl h9i (by decide) dX12_over_263 ?_
        refine lv_ldc2 hx hb hown (hts (.constantLong RX12 316 (-1000000000)) (List.mem_cons_of_mem _ (List.mem_append_left _ (List.mem_append_left _ (List.mem_of_getElem? (i := 7) rfl))))) dX12_over_264 ?_
        refine hz_asl (b := (-1000000000)) (by decide +kernel) ?_
        obtain ⟨h9a, hw⟩ := hw
        refine hz_lcmp_gt (tgt := 284) hx hb dX12_over_267 dX12_over_268 (by decide) h9a ⟨by decide, by decide⟩ (fun c_5 => ?_) (fun c_5 => ?_)
        · have hw := hw.1 c_5
          obtain ⟨x3_6, hx3_6⟩ : ∃ y : Int, y = x3 + 1 := ⟨_, rfl⟩
          have hw := hw x3_6 hx3_6
          refine lv_iinc (v := hz_i x3_6) (lv' := [(3, .int (hz_i x3_6)), (0, .ref om), (1, .long (hz_l x1))]) hx hb dX12_over_284 hl (k := 2) rfl (by rw [hx3_6]; exact hz_i_add _ _) (by decide) rfl (fun ls hl => ?_)
          refine lv_goto (tgt := 162) hx hb dX12_over_287 (by decide) ?_
          exact (hP162 A_3 x3_6).mp hw H locs ls hP hD hS (lv_sub hl [1, 2, 0] rfl)
        · have hw := hw.2 c_5
          exact L271 z A_3 hw H locs ls hP hD hS (lv_sub hl [0] rfl)
    have L215 : ∀ (A : Nat → Nat → Int) (x3 : Int) (x4 : Int) (t0 : Int), wp_over_215 z A x1 x3 x4 t0 P162 Q → ∀ (H : Heap) (locs : List Loc) (ls : Array Slot), va_P D vwCl (mw_w om R C z A) H → va_D Ad (mw_w om R C z A) → va_S Ad s.heap H locs → lv_has ls 7 [(0, .ref om), (1, .long (hz_l x1)), (3, .int (hz_i x3)), (4, .long (hz_l x4))] → W p l e (headSpec wsX12_over ({ frames := 1, cells := 0, slots := 0, locals := 29 } : Room)).room s m (List.toArray [.ref om]) below meth c H locs 0 0 QQ (F0 m 215 ls [.int (hz_i t0)]) := by
      intro A x3 x4 t0 hw H locs ls hP hD hS hl
      refine lv_istore (lv' := [(6, .int (hz_i t0)), (0, .ref om), (1, .long (hz_l x1)), (3, .int (hz_i x3)), (4, .long (hz_l x4))]) hx hb dX12_over_215 hl (by decide) rfl (fun ls hl => ?_)
      refine lv_aload_n hx hb dX12_over_217 rfl (lv_at hl 1 rfl) ?_
      refine mw_get (v := .ref (R 19)) hx hb hts hin12 hown hK hP 19 (by decide) (hts (.fieldLink RX12 133 "HiddenMovesModel" "weight" "[J") (List.mem_cons_of_mem _ (List.mem_append_left _ (List.mem_append_left _ (List.mem_of_getElem? (i := 8) rfl))))) (fun _ h9 => h9) rfl dX12_over_218 ?_
      refine lv_iload_n hx hb dX12_over_221 rfl (lv_at hl 3 rfl) ?_
      refine lv_iload hx hb dX12_over_222 (lv_at hl 0 rfl) ?_
      obtain ⟨h9a, hw⟩ := hw
      refine hz_if_eq (tgt := 233) hx hb dX12_over_224 (by decide) h9a (fun c_7 => ?_) (fun c_7 => ?_)
      · have hw := hw.1 c_7
        refine lv_lload_n hx hb dX12_over_233 rfl (lv_at hl 2 rfl) ?_
        refine lv_aload_n hx hb dX12_over_234 rfl (lv_at hl 1 rfl) ?_
        refine mw_get (v := .ref (R 18)) hx hb hts hin12 hown hK hP 18 (by decide) (hts (.fieldLink RX12 130 "HiddenMovesModel" "endBottom" "[J") (List.mem_cons_of_mem _ (List.mem_append_left _ (List.mem_append_left _ (List.mem_of_getElem? (i := 4) rfl))))) (fun _ h9 => h9) rfl dX12_over_235 ?_
        refine lv_iload_n hx hb dX12_over_238 rfl (lv_at hl 3 rfl) ?_
        obtain ⟨h9i, hw⟩ := hw
        refine mw_lld (k := 18) (n := 800) (i := x3) hx hb hK hP 14 13 rfl rfl h9i (by decide) dX12_over_239 ?_
        obtain ⟨h9n, h9a, h9b, hw⟩ := hw
        refine hz_ldiv hx hb dX12_over_240 h9n h9a h9b ?_
        refine lv_lload hx hb dX12_over_241 (lv_at hl 4 rfl) ?_
        refine hz_lmul hx hb dX12_over_243 ?_
        exact L244 A x3 ((x1.tdiv (A 18 (x3.toNat))) * x4) x3 hw H locs ls hP hD hS (lv_sub hl [1, 2, 3] rfl)
      · have hw := hw.2 c_7
        refine lv_ldc2 hx hb hown (hts (.constantLong RX12 295 (1000000000)) (List.mem_cons_of_mem _ (List.mem_append_left _ (List.mem_append_left _ (List.mem_of_getElem? (i := 3) rfl))))) dX12_over_227 ?_
        refine hz_asl (b := 1000000000) (by decide +kernel) ?_
        refine lv_goto (tgt := 244) hx hb dX12_over_230 (by decide) ?_
        exact L244 A x3 1000000000 x3 hw H locs ls hP hD hS (lv_sub hl [1, 2, 3] rfl)
    have L210 : ∀ (A : Nat → Nat → Int) (x3 : Int) (x4 : Int), wp_over_210 z A x1 x3 x4 P162 Q → ∀ (H : Heap) (locs : List Loc) (ls : Array Slot), va_P D vwCl (mw_w om R C z A) H → va_D Ad (mw_w om R C z A) → va_S Ad s.heap H locs → lv_has ls 7 [(0, .ref om), (1, .long (hz_l x1)), (3, .int (hz_i x3)), (4, .long (hz_l x4))] → W p l e (headSpec wsX12_over ({ frames := 1, cells := 0, slots := 0, locals := 29 } : Room)).room s m (List.toArray [.ref om]) below meth c H locs 0 0 QQ (F0 m 210 ls []) := by
      intro A x3 x4 hw H locs ls hP hD hS hl
      refine lv_iconst (v := hz_i 1) hx hb dX12_over_210 (by decide +kernel) ?_
      refine lv_goto (tgt := 215) hx hb dX12_over_211 (by decide) ?_
      exact L215 A x3 x4 1 hw H locs ls hP hD hS (lv_sub hl [0, 1, 2, 3] rfl)
    refine lv_iload_n hx hb dX12_over_162 rfl (lv_at hl 2 rfl) ?_
    refine lv_sipush (v := hz_i 400) hx hb dX12_over_163 (by decide +kernel) ?_
    refine lv_aload_n hx hb dX12_over_166 rfl (lv_at hl 0 rfl) ?_
    refine mw_get (v := .int (hz_i (z 33))) hx hb hts hin12 hown hK hP 33 (by decide) (hts (.fieldLink RX12 172 "HiddenMovesModel" "draft" "I") (List.mem_cons_of_mem _ (List.mem_append_left _ (List.mem_append_left _ (List.mem_of_getElem? (i := 0) rfl))))) (fun _ h9 => h9) rfl dX12_over_167 ?_
    refine hz_imul hx hb dX12_over_170 ?_
    refine lv_aload_n hx hb dX12_over_171 rfl (lv_at hl 0 rfl) ?_
    refine mw_get (v := .ref (R 14)) hx hb hts hin12 hown hK hP 14 (by decide) (hts (.fieldLink RX12 117 "HiddenMovesModel" "ends" "[I") (List.mem_cons_of_mem _ (List.mem_append_left _ (List.mem_append_left _ (List.mem_of_getElem? (i := 2) rfl))))) (fun _ h9 => h9) rfl dX12_over_172 ?_
    refine lv_aload_n hx hb dX12_over_175 rfl (lv_at hl 0 rfl) ?_
    refine mw_get (v := .int (hz_i (z 33))) hx hb hts hin12 hown hK hP 33 (by decide) (hts (.fieldLink RX12 172 "HiddenMovesModel" "draft" "I") (List.mem_cons_of_mem _ (List.mem_append_left _ (List.mem_append_left _ (List.mem_of_getElem? (i := 0) rfl))))) (fun _ h9 => h9) rfl dX12_over_176 ?_
    obtain ⟨h9i, hw⟩ := hw
    refine mw_ild (k := 14) (n := 2) (i := z 33) hx hb hK hP 10 9 rfl rfl h9i (by decide) dX12_over_179 ?_
    refine hz_iadd hx hb dX12_over_180 ?_
    obtain ⟨h9a, hw⟩ := hw
    obtain ⟨h9b, hw⟩ := hw
    refine hz_icmp_ge (tgt := 290) hx hb dX12_over_181 (by decide) h9a h9b (fun c_8 => ?_) (fun c_8 => ?_)
    · have hw := hw.1 c_8
      subst hQQ
      subst hAe
      exact W.vret hx hb hr (fun t ht hW => ⟨⟨(0, z, A), rfl, hw, by rw [ht]; exact hP, va_K.moved hW.alike hK, hD⟩, hS.F ht⟩) hS.2.2 dX12_over_290
    · have hw := hw.2 c_8
      refine lv_aload_n hx hb dX12_over_184 rfl (lv_at hl 0 rfl) ?_
      refine mw_get (v := .ref (R 17)) hx hb hts hin12 hown hK hP 17 (by decide) (hts (.fieldLink RX12 126 "HiddenMovesModel" "endTop" "[J") (List.mem_cons_of_mem _ (List.mem_append_left _ (List.mem_append_left _ (List.mem_of_getElem? (i := 6) rfl))))) (fun _ h9 => h9) rfl dX12_over_185 ?_
      refine lv_iload_n hx hb dX12_over_188 rfl (lv_at hl 2 rfl) ?_
      obtain ⟨h9i, hw⟩ := hw
      refine mw_lld (k := 17) (n := 800) (i := x3) hx hb hK hP 13 12 rfl rfl h9i (by decide) dX12_over_189 ?_
      refine hz_topl (fun x4_9 hx4_9 => ?_)
      have hw := hw x4_9 hx4_9
      refine lv_lstore (lv' := [(4, .long (hz_l x4_9)), (0, .ref om), (1, .long (hz_l x1)), (3, .int (hz_i x3))]) hx hb dX12_over_190 hl (by decide) rfl (fun ls hl => ?_)
      refine lv_lload hx hb dX12_over_192 (lv_at hl 0 rfl) ?_
      refine lv_ldc2 hx hb hown (hts (.constantLong RX12 295 (1000000000)) (List.mem_cons_of_mem _ (List.mem_append_left _ (List.mem_append_left _ (List.mem_of_getElem? (i := 3) rfl))))) dX12_over_194 ?_
      refine hz_asl (b := 1000000000) (by decide +kernel) ?_
      obtain ⟨h9a, hw⟩ := hw
      refine hz_lcmp_ge (tgt := 210) hx hb dX12_over_197 dX12_over_198 (by decide) h9a ⟨by decide, by decide⟩ (fun c_10 => ?_) (fun c_10 => ?_)
      · have hw := hw.1 c_10
        exact L210 A x3 x4_9 hw H locs ls hP hD hS (lv_sub hl [1, 2, 3, 0] rfl)
      · have hw := hw.2 c_10
        refine lv_lload hx hb dX12_over_201 (lv_at hl 0 rfl) ?_
        refine lv_ldc2 hx hb hown (hts (.constantLong RX12 316 (-1000000000)) (List.mem_cons_of_mem _ (List.mem_append_left _ (List.mem_append_left _ (List.mem_of_getElem? (i := 7) rfl))))) dX12_over_203 ?_
        refine hz_asl (b := (-1000000000)) (by decide +kernel) ?_
        obtain ⟨h9a, hw⟩ := hw
        refine hz_lcmp_gt (tgt := 214) hx hb dX12_over_206 dX12_over_207 (by decide) h9a ⟨by decide, by decide⟩ (fun c_11 => ?_) (fun c_11 => ?_)
        · have hw := hw.1 c_11
          refine lv_iconst (v := hz_i 0) hx hb dX12_over_214 (by decide +kernel) ?_
          exact L215 A x3 x4_9 0 hw H locs ls hP hD hS (lv_sub hl [1, 2, 3, 0] rfl)
        · have hw := hw.2 c_11
          exact L210 A x3 x4_9 hw H locs ls hP hD hS (lv_sub hl [1, 2, 3, 0] rfl)
  have L122 : ∀ (z : Nat → Int) (A : Nat → Nat → Int) (x1 : Int), wp_over_122 z A x1  Q → ∀ (H : Heap) (locs : List Loc) (ls : Array Slot), va_P D vwCl (mw_w om R C z A) H → va_D Ad (mw_w om R C z A) → va_S Ad s.heap H locs → lv_has ls 7 [(0, .ref om), (1, .long (hz_l x1))] → W p l e (headSpec wsX12_over ({ frames := 1, cells := 0, slots := 0, locals := 29 } : Room)).room s m (List.toArray [.ref om]) below meth c H locs 0 0 QQ (F0 m 122 ls []) := by
    intro z A x1 hw H locs ls hP hD hS hl
    refine lv_lload_n hx hb dX12_over_122 rfl (lv_at hl 1 rfl) ?_
    refine lv_ldc2 hx hb hown (hts (.constantLong RX12 295 (1000000000)) (List.mem_cons_of_mem _ (List.mem_append_left _ (List.mem_append_left _ (List.mem_of_getElem? (i := 3) rfl))))) dX12_over_123 ?_
    refine hz_asl (b := 1000000000) (by decide +kernel) ?_
    obtain ⟨h9a, hw⟩ := hw
    refine hz_lcmp_lt (tgt := 143) hx hb dX12_over_126 dX12_over_127 (by decide) h9a ⟨by decide, by decide⟩ (fun c_12 => ?_) (fun c_12 => ?_)
    · have hw := hw.1 c_12
      refine lv_aload_n hx hb dX12_over_143 rfl (lv_at hl 0 rfl) ?_
      refine mw_get (v := .ref (R 25)) hx hb hts hin12 hown hK hP 25 (by decide) (hts (.fieldLink RX12 151 "HiddenMovesModel" "common" "[J") (List.mem_cons_of_mem _ (List.mem_append_left _ (List.mem_append_left _ (List.mem_of_getElem? (i := 5) rfl))))) (fun _ h9 => h9) rfl dX12_over_144 ?_
      refine lv_aload_n hx hb dX12_over_147 rfl (lv_at hl 0 rfl) ?_
      refine mw_get (v := .int (hz_i (z 33))) hx hb hts hin12 hown hK hP 33 (by decide) (hts (.fieldLink RX12 172 "HiddenMovesModel" "draft" "I") (List.mem_cons_of_mem _ (List.mem_append_left _ (List.mem_append_left _ (List.mem_of_getElem? (i := 0) rfl))))) (fun _ h9 => h9) rfl dX12_over_148 ?_
      refine lv_lload_n hx hb dX12_over_151 rfl (lv_at hl 1 rfl) ?_
      obtain ⟨h9i, hw⟩ := hw
      refine mw_lst (k := 25) (n := 2) (i := z 33) (v := x1) hx hb hK hP hD hS 21 20 rfl rfl (mw_a25 om R C z A) h9i (by decide) dX12_over_152 (fun H locs hP hD hS => ?_)
      obtain ⟨A_13, hA_13⟩ : ∃ y : Nat → Nat → Int, y = hz_s A 25 (z 33) x1 := ⟨_, rfl⟩
      rw [← hA_13] at hP hD
      have hw := hw A_13 hA_13
      refine lv_sipush (v := hz_i 400) hx hb dX12_over_153 (by decide +kernel) ?_
      refine lv_aload_n hx hb dX12_over_156 rfl (lv_at hl 0 rfl) ?_
      refine mw_get (v := .int (hz_i (z 33))) hx hb hts hin12 hown hK hP 33 (by decide) (hts (.fieldLink RX12 172 "HiddenMovesModel" "draft" "I") (List.mem_cons_of_mem _ (List.mem_append_left _ (List.mem_append_left _ (List.mem_of_getElem? (i := 0) rfl))))) (fun _ h9 => h9) rfl dX12_over_157 ?_
      refine hz_imul hx hb dX12_over_160 ?_
      refine hz_topi (fun x3_14 hx3_14 => ?_)
      have hw := hw x3_14 hx3_14
      refine lv_istore_n (lv' := [(3, .int (hz_i x3_14)), (0, .ref om), (1, .long (hz_l x1))]) hx hb dX12_over_161 rfl hl (by decide) rfl (fun ls hl => ?_)
      exact L162 z A_13 x1 x3_14 hw H locs ls hP hD hS (lv_sub hl [1, 2, 0] rfl)
    · have hw := hw.2 c_12
      refine lv_aload_n hx hb dX12_over_130 rfl (lv_at hl 0 rfl) ?_
      refine lv_bipush (v := hz_i 6) hx hb dX12_over_131 (by decide +kernel) ?_
      refine lv_aload_n hx hb dX12_over_133 rfl (lv_at hl 0 rfl) ?_
      refine mw_get (v := .int (hz_i (z 10))) hx hb hts hin12 hown hK hP 10 (by decide) (hts (.fieldLink RX12 235 "HiddenMovesModel" "words" "I") (List.mem_cons_of_mem _ (List.mem_append_left _ (List.mem_append_left _ (List.mem_of_getElem? (i := 1) rfl))))) (fun _ h9 => h9) rfl dX12_over_134 ?_
      refine lv_iconst (v := hz_i 1) hx hb dX12_over_137 (by decide +kernel) ?_
      refine hz_isub hx hb dX12_over_138 ?_
      have hFc := mw_free hD hS hA
      refine va_callv (va_runV (As := [.int (hz_i 6), .int (hz_i ((z 10) - 1))]) (rest := []) ⟨hx, hb, hml, hown, hts⟩ (k_stop l D _ om R C z A 6 ((z 10) - 1) _ hw) (cwV 2 hts gX12_over_X12_stop rfl rfl rfl (by decide +kernel) ⟨Nat.le_of_ble_eq_true rfl, Nat.le_of_ble_eq_true rfl⟩) ⟨hm_blind, va_recv hK hP (ci := 12) (q0 := 0) rfl rfl, hm_pre hP hK hD hE⟩ rfl rfl hl.1 rfl (lv_room (Nat.le_of_ble_eq_true rfl)) dX12_over_139 ⟨Nat.le_of_ble_eq_true rfl, Nat.le_of_ble_eq_true rfl⟩) hS (fun q _ h => hFc q h) hFc (fun u t H1 locs ht hvm hw hB hz1 hk1 hS => ?_)
      obtain ⟨r_15, z_16, _⟩ := u
      obtain ⟨hP, hK1, hD1⟩ := hB
      rw [ht] at hP
      have hD := hD1.weaken (fun k q _ h => hFc q.1 h)
      have hP : va_P D vwCl (mw_w om R C z_16 A) H1 := hP
      have hD : va_D Ad (mw_w om R C z_16 A) := hD
      generalize H1 = H at hP hS ⊢
      refine W.eq (g2 := F0 m 142 ls []) rfl ?_
      subst hQQ
      subst hAe
      exact W.vret hx hb hr (fun t ht hW => ⟨⟨(0, z_16, A), rfl, hw, by rw [ht]; exact hP, va_K.moved hW.alike hK, hD⟩, hS.F ht⟩) hS.2.2 dX12_over_142
  have L51 : ∀ (z : Nat → Int) (A : Nat → Nat → Int) (x1 : Int) (x3 : Int), wp_over_51 z A x1 x3  Q → ∀ (H : Heap) (locs : List Loc) (ls : Array Slot), va_P D vwCl (mw_w om R C z A) H → va_D Ad (mw_w om R C z A) → va_S Ad s.heap H locs → lv_has ls 7 [(0, .ref om), (1, .long (hz_l x1)), (3, .int (hz_i x3))] → W p l e (headSpec wsX12_over ({ frames := 1, cells := 0, slots := 0, locals := 29 } : Room)).room s m (List.toArray [.ref om]) below meth c H locs 0 0 QQ (F0 m 51 ls []) := by
    intro z A x1 x3 hw
    obtain ⟨P51, hP51⟩ : ∃ P : Int → Int → Prop, ∀ (x1 : Int) (x3 : Int), P x1 x3 ↔ (∀ (H : Heap) (locs : List Loc) (ls : Array Slot), va_P D vwCl (mw_w om R C z A) H → va_D Ad (mw_w om R C z A) → va_S Ad s.heap H locs → lv_has ls 7 [(0, .ref om), (1, .long (hz_l x1)), (3, .int (hz_i x3))] → W p l e (headSpec wsX12_over ({ frames := 1, cells := 0, slots := 0, locals := 29 } : Room)).room s m (List.toArray [.ref om]) below meth c H locs 0 0 QQ (F0 m 51 ls [])) := ⟨fun (x1 : Int) (x3 : Int) => ∀ (H : Heap) (locs : List Loc) (ls : Array Slot), va_P D vwCl (mw_w om R C z A) H → va_D Ad (mw_w om R C z A) → va_S Ad s.heap H locs → lv_has ls 7 [(0, .ref om), (1, .long (hz_l x1)), (3, .int (hz_i x3))] → W p l e (headSpec wsX12_over ({ frames := 1, cells := 0, slots := 0, locals := 29 } : Room)).room s m (List.toArray [.ref om]) below meth c H locs 0 0 QQ (F0 m 51 ls []), fun _ _ => Iff.rfl⟩
    refine (hP51 x1 x3).mp (hw P51 ?_)
    intro x1 x3 hw
    refine (hP51 x1 x3).mpr ?_
    intro H locs ls hP hD hS hl
    have L115 : ∀ (x3 : Int) (t0 : Int), wp_over_115 z A x3 t0 P51 Q → ∀ (H : Heap) (locs : List Loc) (ls : Array Slot), va_P D vwCl (mw_w om R C z A) H → va_D Ad (mw_w om R C z A) → va_S Ad s.heap H locs → lv_has ls 7 [(0, .ref om), (3, .int (hz_i x3))] → W p l e (headSpec wsX12_over ({ frames := 1, cells := 0, slots := 0, locals := 29 } : Room)).room s m (List.toArray [.ref om]) below meth c H locs 0 0 QQ (F0 m 115 ls [.long (hz_l t0)]) := by
      intro x3 t0 hw H locs ls hP hD hS hl
      refine lv_lstore_n (lv' := [(1, .long (hz_l t0)), (0, .ref om), (3, .int (hz_i x3))]) hx hb dX12_over_115 rfl hl (by decide) rfl (fun ls hl => ?_)
      obtain ⟨x3_17, hx3_17⟩ : ∃ y : Int, y = x3 + 1 := ⟨_, rfl⟩
      have hw := hw x3_17 hx3_17
      refine lv_iinc (v := hz_i x3_17) (lv' := [(3, .int (hz_i x3_17)), (1, .long (hz_l t0)), (0, .ref om)]) hx hb dX12_over_116 hl (k := 2) rfl (by rw [hx3_17]; exact hz_i_add _ _) (by decide) rfl (fun ls hl => ?_)
      refine lv_goto (tgt := 51) hx hb dX12_over_119 (by decide) ?_
      exact (hP51 t0 x3_17).mp hw H locs ls hP hD hS (lv_sub hl [2, 1, 0] rfl)
    refine lv_iload_n hx hb dX12_over_51 rfl (lv_at hl 2 rfl) ?_
    refine lv_sipush (v := hz_i 400) hx hb dX12_over_52 (by decide +kernel) ?_
    refine lv_aload_n hx hb dX12_over_55 rfl (lv_at hl 0 rfl) ?_
    refine mw_get (v := .int (hz_i (z 33))) hx hb hts hin12 hown hK hP 33 (by decide) (hts (.fieldLink RX12 172 "HiddenMovesModel" "draft" "I") (List.mem_cons_of_mem _ (List.mem_append_left _ (List.mem_append_left _ (List.mem_of_getElem? (i := 0) rfl))))) (fun _ h9 => h9) rfl dX12_over_56 ?_
    refine hz_imul hx hb dX12_over_59 ?_
    refine lv_aload_n hx hb dX12_over_60 rfl (lv_at hl 0 rfl) ?_
    refine mw_get (v := .ref (R 14)) hx hb hts hin12 hown hK hP 14 (by decide) (hts (.fieldLink RX12 117 "HiddenMovesModel" "ends" "[I") (List.mem_cons_of_mem _ (List.mem_append_left _ (List.mem_append_left _ (List.mem_of_getElem? (i := 2) rfl))))) (fun _ h9 => h9) rfl dX12_over_61 ?_
    refine lv_aload_n hx hb dX12_over_64 rfl (lv_at hl 0 rfl) ?_
    refine mw_get (v := .int (hz_i (z 33))) hx hb hts hin12 hown hK hP 33 (by decide) (hts (.fieldLink RX12 172 "HiddenMovesModel" "draft" "I") (List.mem_cons_of_mem _ (List.mem_append_left _ (List.mem_append_left _ (List.mem_of_getElem? (i := 0) rfl))))) (fun _ h9 => h9) rfl dX12_over_65 ?_
    obtain ⟨h9i, hw⟩ := hw
    refine mw_ild (k := 14) (n := 2) (i := z 33) hx hb hK hP 10 9 rfl rfl h9i (by decide) dX12_over_68 ?_
    refine hz_iadd hx hb dX12_over_69 ?_
    obtain ⟨h9a, hw⟩ := hw
    obtain ⟨h9b, hw⟩ := hw
    refine hz_icmp_ge (tgt := 122) hx hb dX12_over_70 (by decide) h9a h9b (fun c_18 => ?_) (fun c_18 => ?_)
    · have hw := hw.1 c_18
      exact L122 z A x1 hw H locs ls hP hD hS (lv_sub hl [0, 1] rfl)
    · have hw := hw.2 c_18
      refine lv_lload_n hx hb dX12_over_73 rfl (lv_at hl 1 rfl) ?_
      refine lv_ldc2 hx hb hown (hts (.constantLong RX12 295 (1000000000)) (List.mem_cons_of_mem _ (List.mem_append_left _ (List.mem_append_left _ (List.mem_of_getElem? (i := 3) rfl))))) dX12_over_74 ?_
      refine hz_asl (b := 1000000000) (by decide +kernel) ?_
      obtain ⟨h9a, hw⟩ := hw
      refine hz_lcmp_ge (tgt := 122) hx hb dX12_over_77 dX12_over_78 (by decide) h9a ⟨by decide, by decide⟩ (fun c_19 => ?_) (fun c_19 => ?_)
      · have hw := hw.1 c_19
        exact L122 z A x1 hw H locs ls hP hD hS (lv_sub hl [0, 1] rfl)
      · have hw := hw.2 c_19
        refine lv_aload_n hx hb dX12_over_81 rfl (lv_at hl 0 rfl) ?_
        refine mw_get (v := .ref (R 18)) hx hb hts hin12 hown hK hP 18 (by decide) (hts (.fieldLink RX12 130 "HiddenMovesModel" "endBottom" "[J") (List.mem_cons_of_mem _ (List.mem_append_left _ (List.mem_append_left _ (List.mem_of_getElem? (i := 4) rfl))))) (fun _ h9 => h9) rfl dX12_over_82 ?_
        refine lv_iload_n hx hb dX12_over_85 rfl (lv_at hl 2 rfl) ?_
        obtain ⟨h9i, hw⟩ := hw
        refine mw_lld (k := 18) (n := 800) (i := x3) hx hb hK hP 14 13 rfl rfl h9i (by decide) dX12_over_86 ?_
        refine hz_topl (fun x4_20 hx4_20 => ?_)
        have hw := hw x4_20 hx4_20
        refine lv_lstore (lv' := [(4, .long (hz_l x4_20)), (0, .ref om), (1, .long (hz_l x1)), (3, .int (hz_i x3))]) hx hb dX12_over_87 hl (by decide) rfl (fun ls hl => ?_)
        refine lv_lload hx hb dX12_over_89 (lv_at hl 0 rfl) ?_
        refine lv_ldc2 hx hb hown (hts (.constantLong RX12 295 (1000000000)) (List.mem_cons_of_mem _ (List.mem_append_left _ (List.mem_append_left _ (List.mem_of_getElem? (i := 3) rfl))))) dX12_over_91 ?_
        refine hz_asl (b := 1000000000) (by decide +kernel) ?_
        obtain ⟨h9a, hw⟩ := hw
        refine hz_lcmp_lt (tgt := 104) hx hb dX12_over_94 dX12_over_95 (by decide) h9a ⟨by decide, by decide⟩ (fun c_21 => ?_) (fun c_21 => ?_)
        · have hw := hw.1 c_21
          refine lv_lload_n hx hb dX12_over_104 rfl (lv_at hl 2 rfl) ?_
          refine lv_lload_n hx hb dX12_over_105 rfl (lv_at hl 2 rfl) ?_
          refine lv_lload hx hb dX12_over_106 (lv_at hl 0 rfl) ?_
          have hFc := mw_free hD hS hA
          refine va_calll (va_runS (As := [.long (hz_l x1), .long (hz_l x4_20)]) (rest := [.long (hz_l x1)]) ⟨hx, hb, hml, hown, hts⟩ (k_divisor l D _ om R C z A x1 x4_20 _ hw) (va_cwS 2 hts gX12_over_X12_divisor rfl rfl rfl (by decide +kernel) ⟨Nat.le_of_ble_eq_true rfl, Nat.le_of_ble_eq_true rfl⟩) ⟨hm_blind, hm_pre hP hK hD hE⟩ rfl rfl hl.1 rfl (lv_room (Nat.le_of_ble_eq_true rfl)) dX12_over_108 ⟨Nat.le_of_ble_eq_true rfl, Nat.le_of_ble_eq_true rfl⟩) hS (fun q _ h => hFc q h) hFc (fun rv u t H1 locs ht hvm hw hB hz1 hk1 hS => ?_)
          obtain ⟨r_22, _, _⟩ := u
          obtain ⟨hP, hK1, hD1⟩ := hB
          rw [ht] at hP
          obtain ⟨hrv, hw⟩ := hw
          subst hrv
          have hD := hD1.weaken (fun k q _ h => hFc q.1 h)
          have hP : va_P D vwCl (mw_w om R C z A) H1 := hP
          have hD : va_D Ad (mw_w om R C z A) := hD
          generalize H1 = H at hP hS ⊢
          refine W.eq (g2 := F0 m 111 ls [.long (hz_l r_22), .long (hz_l x1)]) rfl ?_
          obtain ⟨h9n, h9a, h9b, hw⟩ := hw
          refine hz_ldiv hx hb dX12_over_111 h9n h9a h9b ?_
          refine lv_lload hx hb dX12_over_112 (lv_at hl 0 rfl) ?_
          refine hz_lmul hx hb dX12_over_114 ?_
          exact L115 x3 ((x1.tdiv r_22) * x4_20) hw H locs ls hP hD hS (lv_sub hl [1, 3] rfl)
        · have hw := hw.2 c_21
          refine lv_ldc2 hx hb hown (hts (.constantLong RX12 295 (1000000000)) (List.mem_cons_of_mem _ (List.mem_append_left _ (List.mem_append_left _ (List.mem_of_getElem? (i := 3) rfl))))) dX12_over_98 ?_
          refine hz_asl (b := 1000000000) (by decide +kernel) ?_
          refine lv_goto (tgt := 115) hx hb dX12_over_101 (by decide) ?_
          exact L115 x3 1000000000 hw H locs ls hP hD hS (lv_sub hl [1, 3] rfl)
  have L28 : ∀ (z : Nat → Int) (A : Nat → Nat → Int), wp_over_28 z A  Q → ∀ (H : Heap) (locs : List Loc) (ls : Array Slot), va_P D vwCl (mw_w om R C z A) H → va_D Ad (mw_w om R C z A) → va_S Ad s.heap H locs → lv_has ls 7 [(0, .ref om)] → W p l e (headSpec wsX12_over ({ frames := 1, cells := 0, slots := 0, locals := 29 } : Room)).room s m (List.toArray [.ref om]) below meth c H locs 0 0 QQ (F0 m 28 ls []) := by
    intro z A hw H locs ls hP hD hS hl
    refine lv_aload_n hx hb dX12_over_28 rfl (lv_at hl 0 rfl) ?_
    refine lv_iconst (v := hz_i 2) hx hb dX12_over_29 (by decide +kernel) ?_
    refine lv_aload_n hx hb dX12_over_30 rfl (lv_at hl 0 rfl) ?_
    refine mw_get (v := .int (hz_i (z 10))) hx hb hts hin12 hown hK hP 10 (by decide) (hts (.fieldLink RX12 235 "HiddenMovesModel" "words" "I") (List.mem_cons_of_mem _ (List.mem_append_left _ (List.mem_append_left _ (List.mem_of_getElem? (i := 1) rfl))))) (fun _ h9 => h9) rfl dX12_over_31 ?_
    refine lv_iconst (v := hz_i 1) hx hb dX12_over_34 (by decide +kernel) ?_
    refine hz_isub hx hb dX12_over_35 ?_
    have hFc := mw_free hD hS hA
    refine va_callv (va_runV (As := [.int (hz_i 2), .int (hz_i ((z 10) - 1))]) (rest := []) ⟨hx, hb, hml, hown, hts⟩ (k_stop l D _ om R C z A 2 ((z 10) - 1) _ hw) (cwV 2 hts gX12_over_X12_stop rfl rfl rfl (by decide +kernel) ⟨Nat.le_of_ble_eq_true rfl, Nat.le_of_ble_eq_true rfl⟩) ⟨hm_blind, va_recv hK hP (ci := 12) (q0 := 0) rfl rfl, hm_pre hP hK hD hE⟩ rfl rfl hl.1 rfl (lv_room (Nat.le_of_ble_eq_true rfl)) dX12_over_36 ⟨Nat.le_of_ble_eq_true rfl, Nat.le_of_ble_eq_true rfl⟩) hS (fun q _ h => hFc q h) hFc (fun u t H1 locs ht hvm hw hB hz1 hk1 hS => ?_)
    obtain ⟨r_23, z_24, _⟩ := u
    obtain ⟨hP, hK1, hD1⟩ := hB
    rw [ht] at hP
    have hD := hD1.weaken (fun k q _ h => hFc q.1 h)
    have hP : va_P D vwCl (mw_w om R C z_24 A) H1 := hP
    have hD : va_D Ad (mw_w om R C z_24 A) := hD
    generalize H1 = H at hP hS ⊢
    refine W.eq (g2 := F0 m 39 ls []) rfl ?_
    subst hQQ
    subst hAe
    exact W.vret hx hb hr (fun t ht hW => ⟨⟨(0, z_24, A), rfl, hw, by rw [ht]; exact hP, va_K.moved hW.alike hK, hD⟩, hS.F ht⟩) hS.2.2 dX12_over_39
  have hP := hP0; have hD := hD0; have hS := hS0; have hl := hl0; have hw := hw0
  obtain ⟨H, hH⟩ : ∃ H : Heap, H = s.heap := ⟨_, rfl⟩
  obtain ⟨locs, hlocs⟩ : ∃ L : List Loc, L = [] := ⟨_, rfl⟩
  rw [← hH] at hP
  have hS : va_S Ad s.heap H locs := by rw [hH, hlocs]; exact hS
  refine mw_HL hH hlocs ?_
  refine lv_aload_n hx hb dX12_over_0 rfl (lv_at hl 0 rfl) ?_
  refine lv_aload_n hx hb dX12_over_1 rfl (lv_at hl 0 rfl) ?_
  refine mw_get (v := .int (hz_i (z 33))) hx hb hts hin12 hown hK hP 33 (by decide) (hts (.fieldLink RX12 172 "HiddenMovesModel" "draft" "I") (List.mem_cons_of_mem _ (List.mem_append_left _ (List.mem_append_left _ (List.mem_of_getElem? (i := 0) rfl))))) (fun _ h9 => h9) rfl dX12_over_2 ?_
  refine lv_iconst (v := hz_i 0) hx hb dX12_over_5 (by decide +kernel) ?_
  have hFc := mw_free hD hS hA
  refine va_calli (va_runV (As := [.int (hz_i (z 33)), .int (hz_i 0)]) (rest := []) ⟨hx, hb, hml, hown, hts⟩ (k_plansOf l D _ om R C z A (z 33) 0 _ hw) (cwV 2 hts gX12_over_X12_plansOf rfl rfl rfl (by decide +kernel) ⟨Nat.le_of_ble_eq_true rfl, Nat.le_of_ble_eq_true rfl⟩) ⟨hm_blind, va_recv hK hP (ci := 12) (q0 := 0) rfl rfl, hm_pre hP hK hD hE⟩ rfl rfl hl.1 rfl (lv_room (Nat.le_of_ble_eq_true rfl)) dX12_over_6 ⟨Nat.le_of_ble_eq_true rfl, Nat.le_of_ble_eq_true rfl⟩) hS (fun q _ h => hFc q h) hFc (fun rv u t H1 locs ht hvm hw hB hz1 hk1 hS => ?_)
  obtain ⟨r_25, _, _⟩ := u
  obtain ⟨hP, hK1, hD1⟩ := hB
  rw [ht] at hP
  obtain ⟨hrv, hw⟩ := hw
  subst hrv
  have hD := hD1.weaken (fun k q _ h => hFc q.1 h)
  have hP : va_P D vwCl (mw_w om R C z A) H1 := hP
  have hD : va_D Ad (mw_w om R C z A) := hD
  generalize H1 = H at hP hS ⊢
  refine W.eq (g2 := F0 m 9 ls [.int (hz_i r_25)]) rfl ?_
  refine lv_bipush (v := hz_i 64) hx hb dX12_over_9 (by decide +kernel) ?_
  obtain ⟨h9a, hw⟩ := hw
  refine hz_icmp_gt (tgt := 28) hx hb dX12_over_11 (by decide) h9a ⟨by decide, by decide⟩ (fun c_26 => ?_) (fun c_26 => ?_)
  · have hw := hw.1 c_26
    exact L28 z A hw H locs ls hP hD hS (lv_sub hl [0] rfl)
  · have hw := hw.2 c_26
    refine lv_aload_n hx hb dX12_over_14 rfl (lv_at hl 0 rfl) ?_
    refine lv_aload_n hx hb dX12_over_15 rfl (lv_at hl 0 rfl) ?_
    refine mw_get (v := .int (hz_i (z 33))) hx hb hts hin12 hown hK hP 33 (by decide) (hts (.fieldLink RX12 172 "HiddenMovesModel" "draft" "I") (List.mem_cons_of_mem _ (List.mem_append_left _ (List.mem_append_left _ (List.mem_of_getElem? (i := 0) rfl))))) (fun _ h9 => h9) rfl dX12_over_16 ?_
    refine lv_iconst (v := hz_i 1) hx hb dX12_over_19 (by decide +kernel) ?_
    have hFc := mw_free hD hS hA
    refine va_calli (va_runV (As := [.int (hz_i (z 33)), .int (hz_i 1)]) (rest := []) ⟨hx, hb, hml, hown, hts⟩ (k_plansOf l D _ om R C z A (z 33) 1 _ hw) (cwV 2 hts gX12_over_X12_plansOf rfl rfl rfl (by decide +kernel) ⟨Nat.le_of_ble_eq_true rfl, Nat.le_of_ble_eq_true rfl⟩) ⟨hm_blind, va_recv hK hP (ci := 12) (q0 := 0) rfl rfl, hm_pre hP hK hD hE⟩ rfl rfl hl.1 rfl (lv_room (Nat.le_of_ble_eq_true rfl)) dX12_over_20 ⟨Nat.le_of_ble_eq_true rfl, Nat.le_of_ble_eq_true rfl⟩) hS (fun q _ h => hFc q h) hFc (fun rv u t H1 locs ht hvm hw hB hz1 hk1 hS => ?_)
    obtain ⟨r_27, _, _⟩ := u
    obtain ⟨hP, hK1, hD1⟩ := hB
    rw [ht] at hP
    obtain ⟨hrv, hw⟩ := hw
    subst hrv
    have hD := hD1.weaken (fun k q _ h => hFc q.1 h)
    have hP : va_P D vwCl (mw_w om R C z A) H1 := hP
    have hD : va_D Ad (mw_w om R C z A) := hD
    generalize H1 = H at hP hS ⊢
    refine W.eq (g2 := F0 m 23 ls [.int (hz_i r_27)]) rfl ?_
    refine lv_bipush (v := hz_i 64) hx hb dX12_over_23 (by decide +kernel) ?_
    obtain ⟨h9a, hw⟩ := hw
    refine hz_icmp_le (tgt := 40) hx hb dX12_over_25 (by decide) h9a ⟨by decide, by decide⟩ (fun c_28 => ?_) (fun c_28 => ?_)
    · have hw := hw.1 c_28
      refine lv_lconst (v := hz_l 1) hx hb dX12_over_40 (by decide +kernel) ?_
      refine lv_lstore_n (lv' := [(1, .long (hz_l 1)), (0, .ref om)]) hx hb dX12_over_41 rfl hl (by decide) rfl (fun ls hl => ?_)
      refine lv_sipush (v := hz_i 400) hx hb dX12_over_42 (by decide +kernel) ?_
      refine lv_aload_n hx hb dX12_over_45 rfl (lv_at hl 1 rfl) ?_
      refine mw_get (v := .int (hz_i (z 33))) hx hb hts hin12 hown hK hP 33 (by decide) (hts (.fieldLink RX12 172 "HiddenMovesModel" "draft" "I") (List.mem_cons_of_mem _ (List.mem_append_left _ (List.mem_append_left _ (List.mem_of_getElem? (i := 0) rfl))))) (fun _ h9 => h9) rfl dX12_over_46 ?_
      refine hz_imul hx hb dX12_over_49 ?_
      refine hz_topi (fun x3_29 hx3_29 => ?_)
      have hw := hw x3_29 hx3_29
      refine lv_istore_n (lv' := [(3, .int (hz_i x3_29)), (1, .long (hz_l 1)), (0, .ref om)]) hx hb dX12_over_50 rfl hl (by decide) rfl (fun ls hl => ?_)
      exact L51 z A 1 x3_29 hw H locs ls hP hD hS (lv_sub hl [2, 1, 0] rfl)
    · have hw := hw.2 c_28
      exact L28 z A hw H locs ls hP hD hS (lv_sub hl [0] rfl)

noncomputable def wp_go_135 (z : Nat → Int) (A : Nat → Nat → Int) (Q : Int → (Nat → Int) → (Nat → Nat → Int) → Prop) : Prop := Q (z 35) z A
noncomputable def wp_go_124 (z : Nat → Int) (A : Nat → Nat → Int) (Q : Int → (Nat → Int) → (Nat → Nat → Int) → Prop) : Prop := hz_rI (z 35) ∧ ((¬ z 35 = 0 → wp_go_135 z A  Q) ∧ (z 35 = 0 → wp_over z A (fun z_3 A_4 => wp_go_135 z_3 A_4  Q)))
noncomputable def wp_go_97 (z : Nat → Int) (A : Nat → Nat → Int) (Q : Int → (Nat → Int) → (Nat → Nat → Int) → Prop) : Prop := ∀ P97 : (Nat → Int) → (Nat → Nat → Int) → Prop, (∀ (z : Nat → Int) (A : Nat → Nat → Int), hz_rI (z 45) ∧ ((z 45 ≤ 0 → wp_go_124 z A  Q) ∧ (¬ (z 45 ≤ 0) → hz_rI (z 35) ∧ ((¬ z 35 = 0 → wp_go_124 z A  Q) ∧ (z 35 = 0 → wp_goOn z A ((z 45) - 1) (fun z_8 A_9 => P97 z_8 A_9))))) → P97 z A) → P97 z A
noncomputable def wp_go (z : Nat → Int) (A : Nat → Nat → Int) (Q : Int → (Nat → Int) → (Nat → Nat → Int) → Prop) : Prop := (0 ≤ z 33 ∧ z 33 < 2) ∧ ∀ A_10 : Nat → Nat → Int, A_10 = hz_s A 13 (z 33) 0 → (0 ≤ z 33 ∧ z 33 < 2) ∧ ∀ A_11 : Nat → Nat → Int, A_11 = hz_s A_10 14 (z 33) 0 → (0 ≤ z 33 ∧ z 33 < 2) ∧ ∀ A_12 : Nat → Nat → Int, A_12 = hz_s A_11 15 (z 33) 0 → (0 ≤ z 33 ∧ z 33 < 2) ∧ ∀ A_13 : Nat → Nat → Int, A_13 = hz_s A_12 16 (z 33) 0 → (0 ≤ z 33 ∧ z 33 < 2) ∧ ∀ A_14 : Nat → Nat → Int, A_14 = hz_s A_13 24 (z 33) 0 → (0 ≤ 2 * (z 33) ∧ 2 * (z 33) < 4) ∧ ∀ A_15 : Nat → Nat → Int, A_15 = hz_s A_14 26 (2 * (z 33)) 0 → (0 ≤ (2 * (z 33)) + 1 ∧ (2 * (z 33)) + 1 < 4) ∧ ∀ A_16 : Nat → Nat → Int, A_16 = hz_s A_15 26 ((2 * (z 33)) + 1) 0 → ∀ z_17 : Nat → Int, z_17 = lp_U z 35 0 → ∀ z_18 : Nat → Int, z_18 = lp_U z_17 45 0 → ∀ z_19 : Nat → Int, z_19 = lp_U z_18 46 0 → wp_beginNode z_19 A_16 1 1 (fun z_21 A_22 => wp_go_97 z_21 A_22  Q)
set_option maxHeartbeats 4000000 in
set_option maxRecDepth 100000 in
theorem k_go (l : Launch) (D : va_G) (sz : Nat) (om : Nat) (R : Nat → Nat) (C : Nat → ClassId) (z : Nat → Int) (A : Nat → Nat → Int) (Q : Int → (Nat → Int) → (Nat → Nat → Int) → Prop) (hw : wp_go z A Q) : Met l yX12_go wsX12_go ({ frames := 4, cells := 0, slots := 0, locals := 113 } : Room) (va_Pc [.ref om] (hm_P D (mw_w om R C z A) (mw_t C) sz)) (va_Qi (S := Int × (Nat → Int) × (Nat → Nat → Int)) (fun r u => r = hz_i u.1 ∧ Q u.1 u.2.1 u.2.2) (fun u t => hm_B D (va_A (mw_w om R C z A) sz) (mw_w om R C u.2.1 u.2.2) (mw_t C) t) (va_A (mw_w om R C z A) sz)) 0 0 (va_A (mw_w om R C z A) sz) := by
  refine Met.ofW (cc := cX12_go) (maxL := 1) (ret := (some .int)) (by decide) rfl ?_
  intro p e s m args below meth c s₁ B hml hv
  obtain ⟨rfl, hsz, hP, hK, hD0, hE⟩ := hv
  have hx := B.exec
  have hb := B.bytes
  have hr := B.returns
  have hts := atoms_spec (ws := wsX12_go) B.pre
  have hown : s.vm.findClass RX12 = some m.cls := findClass_of_methodNamed B.named
  have hlocks := B.notSynchronized
  have hin12 : ∀ w ∈ u_ws RX12 TX12 58, w ∈ wsX12_go := fun w h => List.mem_cons_of_mem _ (List.mem_append_right _ (h))
  subst hsz
  have hD := hD0.self (sz := s.heap.size)
  generalize hAe : va_A (mw_w om R C z A) s.heap.size = Ad at hD ⊢
  have hA : ∀ q : Nat, s.heap.size ≤ q → Ad q := fun q h => by rw [← hAe]; exact Or.inr h
  have hS : va_S Ad s.heap s.heap [] := va_S.rf
  have hl := lv_entry ([.ref om]) (n := 1) (Nat.le_of_ble_eq_true rfl)
  rw [lg_entry_eq]
  generalize (lg_sl ([.ref om]) ++ List.replicate (1 - (lg_sl ([.ref om])).length) Slot.unset).toArray = ls at hl ⊢
  have hl : lv_has ls 1 [(0, .ref om)] := hl
  refine mw_Q (fun QQ hQQ => ?_)
  have hP0 := hP; have hD0 := hD; have hS0 := hS; have hl0 := hl; have hw0 := hw
  clear hP hD hS hl hw
  have L135 : ∀ (z : Nat → Int) (A : Nat → Nat → Int), wp_go_135 z A  Q → ∀ (H : Heap) (locs : List Loc) (ls : Array Slot), va_P D vwCl (mw_w om R C z A) H → va_D Ad (mw_w om R C z A) → va_S Ad s.heap H locs → lv_has ls 1 [(0, .ref om)] → W p l e (headSpec wsX12_go ({ frames := 4, cells := 0, slots := 0, locals := 113 } : Room)).room s m (List.toArray [.ref om]) below meth c H locs 0 0 QQ (F0 m 135 ls []) := by
    intro z A hw H locs ls hP hD hS hl
    refine lv_aload_n hx hb dX12_go_135 rfl (lv_at hl 0 rfl) ?_
    refine mw_get (v := .int (hz_i (z 35))) hx hb hts hin12 hown hK hP 35 (by decide) (hts (.fieldLink RX12 256 "HiddenMovesModel" "fault" "I") (List.mem_cons_of_mem _ (List.mem_append_left _ (List.mem_append_left _ (List.mem_of_getElem? (i := 7) rfl))))) (fun _ h9 => h9) rfl dX12_go_136 ?_
    subst hQQ
    subst hAe
    exact W.iret (v := hz_i (z 35)) hx hb hr (fun t ht hW => ⟨⟨hz_i (z 35), (z 35, z, A), rfl, ⟨rfl, hw⟩, by rw [ht]; exact hP, va_K.moved hW.alike hK, hD⟩, hS.F ht⟩) hS.2.2 dX12_go_139
  have L124 : ∀ (z : Nat → Int) (A : Nat → Nat → Int), wp_go_124 z A  Q → ∀ (H : Heap) (locs : List Loc) (ls : Array Slot), va_P D vwCl (mw_w om R C z A) H → va_D Ad (mw_w om R C z A) → va_S Ad s.heap H locs → lv_has ls 1 [(0, .ref om)] → W p l e (headSpec wsX12_go ({ frames := 4, cells := 0, slots := 0, locals := 113 } : Room)).room s m (List.toArray [.ref om]) below meth c H locs 0 0 QQ (F0 m 124 ls []) := by
    intro z A hw H locs ls hP hD hS hl
    refine lv_aload_n hx hb dX12_go_124 rfl (lv_at hl 0 rfl) ?_
    refine mw_get (v := .int (hz_i (z 35))) hx hb hts hin12 hown hK hP 35 (by decide) (hts (.fieldLink RX12 256 "HiddenMovesModel" "fault" "I") (List.mem_cons_of_mem _ (List.mem_append_left _ (List.mem_append_left _ (List.mem_of_getElem? (i := 7) rfl))))) (fun _ h9 => h9) rfl dX12_go_125 ?_
    obtain ⟨h9a, hw⟩ := hw
    refine hz_if_ne (tgt := 135) hx hb dX12_go_128 (by decide) h9a (fun c_1 => ?_) (fun c_1 => ?_)
    · have hw := hw.1 c_1
      exact L135 z A hw H locs ls hP hD hS (lv_sub hl [0] rfl)
    · have hw := hw.2 c_1
      refine lv_aload_n hx hb dX12_go_131 rfl (lv_at hl 0 rfl) ?_
      have hFc := mw_free hD hS hA
      refine va_callv (va_runV (As := []) (rest := []) ⟨hx, hb, hml, hown, hts⟩ (k_over l D _ om R C z A _ hw) (cwV 0 hts gX12_go_X12_over rfl rfl rfl (by decide +kernel) ⟨Nat.le_of_ble_eq_true rfl, Nat.le_of_ble_eq_true rfl⟩) ⟨hm_blind, va_recv hK hP (ci := 12) (q0 := 0) rfl rfl, hm_pre hP hK hD hE⟩ rfl rfl hl.1 rfl (lv_room (Nat.le_of_ble_eq_true rfl)) dX12_go_132 ⟨Nat.le_of_ble_eq_true rfl, Nat.le_of_ble_eq_true rfl⟩) hS (fun q _ h => hFc q h) hFc (fun u t H1 locs ht hvm hw hB hz1 hk1 hS => ?_)
      obtain ⟨r_2, z_3, A_4⟩ := u
      obtain ⟨hP, hK1, hD1⟩ := hB
      rw [ht] at hP
      have hD := hD1.weaken (fun k q _ h => hFc q.1 h)
      have hP : va_P D vwCl (mw_w om R C z_3 A_4) H1 := hP
      have hD : va_D Ad (mw_w om R C z_3 A_4) := hD
      generalize H1 = H at hP hS ⊢
      refine W.eq (g2 := F0 m 135 ls []) rfl ?_
      exact L135 z_3 A_4 hw H locs ls hP hD hS (lv_sub hl [0] rfl)
  have L97 : ∀ (z : Nat → Int) (A : Nat → Nat → Int), wp_go_97 z A  Q → ∀ (H : Heap) (locs : List Loc) (ls : Array Slot), va_P D vwCl (mw_w om R C z A) H → va_D Ad (mw_w om R C z A) → va_S Ad s.heap H locs → lv_has ls 1 [(0, .ref om)] → W p l e (headSpec wsX12_go ({ frames := 4, cells := 0, slots := 0, locals := 113 } : Room)).room s m (List.toArray [.ref om]) below meth c H locs 0 0 QQ (F0 m 97 ls []) := by
    intro z A hw
    obtain ⟨P97, hP97⟩ : ∃ P : (Nat → Int) → (Nat → Nat → Int) → Prop, ∀ (z : Nat → Int) (A : Nat → Nat → Int), P z A ↔ (∀ (H : Heap) (locs : List Loc) (ls : Array Slot), va_P D vwCl (mw_w om R C z A) H → va_D Ad (mw_w om R C z A) → va_S Ad s.heap H locs → lv_has ls 1 [(0, .ref om)] → W p l e (headSpec wsX12_go ({ frames := 4, cells := 0, slots := 0, locals := 113 } : Room)).room s m (List.toArray [.ref om]) below meth c H locs 0 0 QQ (F0 m 97 ls [])) := ⟨fun (z : Nat → Int) (A : Nat → Nat → Int) => ∀ (H : Heap) (locs : List Loc) (ls : Array Slot), va_P D vwCl (mw_w om R C z A) H → va_D Ad (mw_w om R C z A) → va_S Ad s.heap H locs → lv_has ls 1 [(0, .ref om)] → W p l e (headSpec wsX12_go ({ frames := 4, cells := 0, slots := 0, locals := 113 } : Room)).room s m (List.toArray [.ref om]) below meth c H locs 0 0 QQ (F0 m 97 ls []), fun _ _ => Iff.rfl⟩
    refine (hP97 z A).mp (hw P97 ?_)
    intro z A hw
    refine (hP97 z A).mpr ?_
    intro H locs ls hP hD hS hl
    refine lv_aload_n hx hb dX12_go_97 rfl (lv_at hl 0 rfl) ?_
    refine mw_get (v := .int (hz_i (z 45))) hx hb hts hin12 hown hK hP 45 (by decide) (hts (.fieldLink RX12 275 "HiddenMovesModel" "open" "I") (List.mem_cons_of_mem _ (List.mem_append_left _ (List.mem_append_left _ (List.mem_of_getElem? (i := 8) rfl))))) (fun _ h9 => h9) rfl dX12_go_98 ?_
    obtain ⟨h9a, hw⟩ := hw
    refine hz_if_le (tgt := 124) hx hb dX12_go_101 (by decide) h9a (fun c_5 => ?_) (fun c_5 => ?_)
    · have hw := hw.1 c_5
      exact L124 z A hw H locs ls hP hD hS (lv_sub hl [0] rfl)
    · have hw := hw.2 c_5
      refine lv_aload_n hx hb dX12_go_104 rfl (lv_at hl 0 rfl) ?_
      refine mw_get (v := .int (hz_i (z 35))) hx hb hts hin12 hown hK hP 35 (by decide) (hts (.fieldLink RX12 256 "HiddenMovesModel" "fault" "I") (List.mem_cons_of_mem _ (List.mem_append_left _ (List.mem_append_left _ (List.mem_of_getElem? (i := 7) rfl))))) (fun _ h9 => h9) rfl dX12_go_105 ?_
      obtain ⟨h9a, hw⟩ := hw
      refine hz_if_ne (tgt := 124) hx hb dX12_go_108 (by decide) h9a (fun c_6 => ?_) (fun c_6 => ?_)
      · have hw := hw.1 c_6
        exact L124 z A hw H locs ls hP hD hS (lv_sub hl [0] rfl)
      · have hw := hw.2 c_6
        refine lv_aload_n hx hb dX12_go_111 rfl (lv_at hl 0 rfl) ?_
        refine lv_aload_n hx hb dX12_go_112 rfl (lv_at hl 0 rfl) ?_
        refine mw_get (v := .int (hz_i (z 45))) hx hb hts hin12 hown hK hP 45 (by decide) (hts (.fieldLink RX12 275 "HiddenMovesModel" "open" "I") (List.mem_cons_of_mem _ (List.mem_append_left _ (List.mem_append_left _ (List.mem_of_getElem? (i := 8) rfl))))) (fun _ h9 => h9) rfl dX12_go_113 ?_
        refine lv_iconst (v := hz_i 1) hx hb dX12_go_116 (by decide +kernel) ?_
        refine hz_isub hx hb dX12_go_117 ?_
        have hFc := mw_free hD hS hA
        refine va_callv (va_runV (As := [.int (hz_i ((z 45) - 1))]) (rest := []) ⟨hx, hb, hml, hown, hts⟩ (k_goOn l D _ om R C z A ((z 45) - 1) _ hw) (cwV 1 hts gX12_go_X12_goOn rfl rfl rfl (by decide +kernel) ⟨Nat.le_of_ble_eq_true rfl, Nat.le_of_ble_eq_true rfl⟩) ⟨hm_blind, va_recv hK hP (ci := 12) (q0 := 0) rfl rfl, hm_pre hP hK hD hE⟩ rfl rfl hl.1 rfl (lv_room (Nat.le_of_ble_eq_true rfl)) dX12_go_118 ⟨Nat.le_of_ble_eq_true rfl, Nat.le_of_ble_eq_true rfl⟩) hS (fun q _ h => hFc q h) hFc (fun u t H1 locs ht hvm hw hB hz1 hk1 hS => ?_)
        obtain ⟨r_7, z_8, A_9⟩ := u
        obtain ⟨hP, hK1, hD1⟩ := hB
        rw [ht] at hP
        have hD := hD1.weaken (fun k q _ h => hFc q.1 h)
        have hP : va_P D vwCl (mw_w om R C z_8 A_9) H1 := hP
        have hD : va_D Ad (mw_w om R C z_8 A_9) := hD
        generalize H1 = H at hP hS ⊢
        refine W.eq (g2 := F0 m 121 ls []) rfl ?_
        refine lv_goto (tgt := 97) hx hb dX12_go_121 (by decide) ?_
        exact (hP97 z_8 A_9).mp hw H locs ls hP hD hS (lv_sub hl [0] rfl)
  have hP := hP0; have hD := hD0; have hS := hS0; have hl := hl0; have hw := hw0
  obtain ⟨H, hH⟩ : ∃ H : Heap, H = s.heap := ⟨_, rfl⟩
  obtain ⟨locs, hlocs⟩ : ∃ L : List Loc, L = [] := ⟨_, rfl⟩
  rw [← hH] at hP
  have hS : va_S Ad s.heap H locs := by rw [hH, hlocs]; exact hS
  refine mw_HL hH hlocs ?_
  refine lv_aload_n hx hb dX12_go_0 rfl (lv_at hl 0 rfl) ?_
  refine mw_get (v := .ref (R 13)) hx hb hts hin12 hown hK hP 13 (by decide) (hts (.fieldLink RX12 114 "HiddenMovesModel" "nodes" "[I") (List.mem_cons_of_mem _ (List.mem_append_left _ (List.mem_append_left _ (List.mem_of_getElem? (i := 0) rfl))))) (fun _ h9 => h9) rfl dX12_go_1 ?_
  refine lv_aload_n hx hb dX12_go_4 rfl (lv_at hl 0 rfl) ?_
  refine mw_get (v := .int (hz_i (z 33))) hx hb hts hin12 hown hK hP 33 (by decide) (hts (.fieldLink RX12 172 "HiddenMovesModel" "draft" "I") (List.mem_cons_of_mem _ (List.mem_append_left _ (List.mem_append_left _ (List.mem_of_getElem? (i := 1) rfl))))) (fun _ h9 => h9) rfl dX12_go_5 ?_
  refine lv_iconst (v := hz_i 0) hx hb dX12_go_8 (by decide +kernel) ?_
  obtain ⟨h9i, hw⟩ := hw
  refine mw_ist (k := 13) (n := 2) (i := z 33) (v := 0) hx hb hK hP hD hS 9 8 rfl rfl (mw_a13 om R C z A) h9i (by decide) dX12_go_9 (fun H locs hP hD hS => ?_)
  obtain ⟨A_10, hA_10⟩ : ∃ y : Nat → Nat → Int, y = hz_s A 13 (z 33) 0 := ⟨_, rfl⟩
  rw [← hA_10] at hP hD
  have hw := hw A_10 hA_10
  refine lv_aload_n hx hb dX12_go_10 rfl (lv_at hl 0 rfl) ?_
  refine mw_get (v := .ref (R 14)) hx hb hts hin12 hown hK hP 14 (by decide) (hts (.fieldLink RX12 117 "HiddenMovesModel" "ends" "[I") (List.mem_cons_of_mem _ (List.mem_append_left _ (List.mem_append_left _ (List.mem_of_getElem? (i := 2) rfl))))) (fun _ h9 => h9) rfl dX12_go_11 ?_
  refine lv_aload_n hx hb dX12_go_14 rfl (lv_at hl 0 rfl) ?_
  refine mw_get (v := .int (hz_i (z 33))) hx hb hts hin12 hown hK hP 33 (by decide) (hts (.fieldLink RX12 172 "HiddenMovesModel" "draft" "I") (List.mem_cons_of_mem _ (List.mem_append_left _ (List.mem_append_left _ (List.mem_of_getElem? (i := 1) rfl))))) (fun _ h9 => h9) rfl dX12_go_15 ?_
  refine lv_iconst (v := hz_i 0) hx hb dX12_go_18 (by decide +kernel) ?_
  obtain ⟨h9i, hw⟩ := hw
  refine mw_ist (k := 14) (n := 2) (i := z 33) (v := 0) hx hb hK hP hD hS 10 9 rfl rfl (mw_a14 om R C z A_10) h9i (by decide) dX12_go_19 (fun H locs hP hD hS => ?_)
  obtain ⟨A_11, hA_11⟩ : ∃ y : Nat → Nat → Int, y = hz_s A_10 14 (z 33) 0 := ⟨_, rfl⟩
  rw [← hA_11] at hP hD
  have hw := hw A_11 hA_11
  refine lv_aload_n hx hb dX12_go_20 rfl (lv_at hl 0 rfl) ?_
  refine mw_get (v := .ref (R 15)) hx hb hts hin12 hown hK hP 15 (by decide) (hts (.fieldLink RX12 120 "HiddenMovesModel" "draws" "[I") (List.mem_cons_of_mem _ (List.mem_append_left _ (List.mem_append_left _ (List.mem_of_getElem? (i := 3) rfl))))) (fun _ h9 => h9) rfl dX12_go_21 ?_
  refine lv_aload_n hx hb dX12_go_24 rfl (lv_at hl 0 rfl) ?_
  refine mw_get (v := .int (hz_i (z 33))) hx hb hts hin12 hown hK hP 33 (by decide) (hts (.fieldLink RX12 172 "HiddenMovesModel" "draft" "I") (List.mem_cons_of_mem _ (List.mem_append_left _ (List.mem_append_left _ (List.mem_of_getElem? (i := 1) rfl))))) (fun _ h9 => h9) rfl dX12_go_25 ?_
  refine lv_iconst (v := hz_i 0) hx hb dX12_go_28 (by decide +kernel) ?_
  obtain ⟨h9i, hw⟩ := hw
  refine mw_ist (k := 15) (n := 2) (i := z 33) (v := 0) hx hb hK hP hD hS 11 10 rfl rfl (mw_a15 om R C z A_11) h9i (by decide) dX12_go_29 (fun H locs hP hD hS => ?_)
  obtain ⟨A_12, hA_12⟩ : ∃ y : Nat → Nat → Int, y = hz_s A_11 15 (z 33) 0 := ⟨_, rfl⟩
  rw [← hA_12] at hP hD
  have hw := hw A_12 hA_12
  refine lv_aload_n hx hb dX12_go_30 rfl (lv_at hl 0 rfl) ?_
  refine mw_get (v := .ref (R 16)) hx hb hts hin12 hown hK hP 16 (by decide) (hts (.fieldLink RX12 123 "HiddenMovesModel" "choices" "[I") (List.mem_cons_of_mem _ (List.mem_append_left _ (List.mem_append_left _ (List.mem_of_getElem? (i := 4) rfl))))) (fun _ h9 => h9) rfl dX12_go_31 ?_
  refine lv_aload_n hx hb dX12_go_34 rfl (lv_at hl 0 rfl) ?_
  refine mw_get (v := .int (hz_i (z 33))) hx hb hts hin12 hown hK hP 33 (by decide) (hts (.fieldLink RX12 172 "HiddenMovesModel" "draft" "I") (List.mem_cons_of_mem _ (List.mem_append_left _ (List.mem_append_left _ (List.mem_of_getElem? (i := 1) rfl))))) (fun _ h9 => h9) rfl dX12_go_35 ?_
  refine lv_iconst (v := hz_i 0) hx hb dX12_go_38 (by decide +kernel) ?_
  obtain ⟨h9i, hw⟩ := hw
  refine mw_ist (k := 16) (n := 2) (i := z 33) (v := 0) hx hb hK hP hD hS 12 11 rfl rfl (mw_a16 om R C z A_12) h9i (by decide) dX12_go_39 (fun H locs hP hD hS => ?_)
  obtain ⟨A_13, hA_13⟩ : ∃ y : Nat → Nat → Int, y = hz_s A_12 16 (z 33) 0 := ⟨_, rfl⟩
  rw [← hA_13] at hP hD
  have hw := hw A_13 hA_13
  refine lv_aload_n hx hb dX12_go_40 rfl (lv_at hl 0 rfl) ?_
  refine mw_get (v := .ref (R 24)) hx hb hts hin12 hown hK hP 24 (by decide) (hts (.fieldLink RX12 148 "HiddenMovesModel" "ways" "[I") (List.mem_cons_of_mem _ (List.mem_append_left _ (List.mem_append_left _ (List.mem_of_getElem? (i := 5) rfl))))) (fun _ h9 => h9) rfl dX12_go_41 ?_
  refine lv_aload_n hx hb dX12_go_44 rfl (lv_at hl 0 rfl) ?_
  refine mw_get (v := .int (hz_i (z 33))) hx hb hts hin12 hown hK hP 33 (by decide) (hts (.fieldLink RX12 172 "HiddenMovesModel" "draft" "I") (List.mem_cons_of_mem _ (List.mem_append_left _ (List.mem_append_left _ (List.mem_of_getElem? (i := 1) rfl))))) (fun _ h9 => h9) rfl dX12_go_45 ?_
  refine lv_iconst (v := hz_i 0) hx hb dX12_go_48 (by decide +kernel) ?_
  obtain ⟨h9i, hw⟩ := hw
  refine mw_ist (k := 24) (n := 2) (i := z 33) (v := 0) hx hb hK hP hD hS 20 19 rfl rfl (mw_a24 om R C z A_13) h9i (by decide) dX12_go_49 (fun H locs hP hD hS => ?_)
  obtain ⟨A_14, hA_14⟩ : ∃ y : Nat → Nat → Int, y = hz_s A_13 24 (z 33) 0 := ⟨_, rfl⟩
  rw [← hA_14] at hP hD
  have hw := hw A_14 hA_14
  refine lv_aload_n hx hb dX12_go_50 rfl (lv_at hl 0 rfl) ?_
  refine mw_get (v := .ref (R 26)) hx hb hts hin12 hown hK hP 26 (by decide) (hts (.fieldLink RX12 154 "HiddenMovesModel" "many" "[I") (List.mem_cons_of_mem _ (List.mem_append_left _ (List.mem_append_left _ (List.mem_of_getElem? (i := 6) rfl))))) (fun _ h9 => h9) rfl dX12_go_51 ?_
  refine lv_iconst (v := hz_i 2) hx hb dX12_go_54 (by decide +kernel) ?_
  refine lv_aload_n hx hb dX12_go_55 rfl (lv_at hl 0 rfl) ?_
  refine mw_get (v := .int (hz_i (z 33))) hx hb hts hin12 hown hK hP 33 (by decide) (hts (.fieldLink RX12 172 "HiddenMovesModel" "draft" "I") (List.mem_cons_of_mem _ (List.mem_append_left _ (List.mem_append_left _ (List.mem_of_getElem? (i := 1) rfl))))) (fun _ h9 => h9) rfl dX12_go_56 ?_
  refine hz_imul hx hb dX12_go_59 ?_
  refine lv_iconst (v := hz_i 0) hx hb dX12_go_60 (by decide +kernel) ?_
  obtain ⟨h9i, hw⟩ := hw
  refine mw_ist (k := 26) (n := 4) (i := 2 * (z 33)) (v := 0) hx hb hK hP hD hS 22 21 rfl rfl (mw_a26 om R C z A_14) h9i (by decide) dX12_go_61 (fun H locs hP hD hS => ?_)
  obtain ⟨A_15, hA_15⟩ : ∃ y : Nat → Nat → Int, y = hz_s A_14 26 (2 * (z 33)) 0 := ⟨_, rfl⟩
  rw [← hA_15] at hP hD
  have hw := hw A_15 hA_15
  refine lv_aload_n hx hb dX12_go_62 rfl (lv_at hl 0 rfl) ?_
  refine mw_get (v := .ref (R 26)) hx hb hts hin12 hown hK hP 26 (by decide) (hts (.fieldLink RX12 154 "HiddenMovesModel" "many" "[I") (List.mem_cons_of_mem _ (List.mem_append_left _ (List.mem_append_left _ (List.mem_of_getElem? (i := 6) rfl))))) (fun _ h9 => h9) rfl dX12_go_63 ?_
  refine lv_iconst (v := hz_i 2) hx hb dX12_go_66 (by decide +kernel) ?_
  refine lv_aload_n hx hb dX12_go_67 rfl (lv_at hl 0 rfl) ?_
  refine mw_get (v := .int (hz_i (z 33))) hx hb hts hin12 hown hK hP 33 (by decide) (hts (.fieldLink RX12 172 "HiddenMovesModel" "draft" "I") (List.mem_cons_of_mem _ (List.mem_append_left _ (List.mem_append_left _ (List.mem_of_getElem? (i := 1) rfl))))) (fun _ h9 => h9) rfl dX12_go_68 ?_
  refine hz_imul hx hb dX12_go_71 ?_
  refine lv_iconst (v := hz_i 1) hx hb dX12_go_72 (by decide +kernel) ?_
  refine hz_iadd hx hb dX12_go_73 ?_
  refine lv_iconst (v := hz_i 0) hx hb dX12_go_74 (by decide +kernel) ?_
  obtain ⟨h9i, hw⟩ := hw
  refine mw_ist (k := 26) (n := 4) (i := (2 * (z 33)) + 1) (v := 0) hx hb hK hP hD hS 22 21 rfl rfl (mw_a26 om R C z A_15) h9i (by decide) dX12_go_75 (fun H locs hP hD hS => ?_)
  obtain ⟨A_16, hA_16⟩ : ∃ y : Nat → Nat → Int, y = hz_s A_15 26 ((2 * (z 33)) + 1) 0 := ⟨_, rfl⟩
  rw [← hA_16] at hP hD
  have hw := hw A_16 hA_16
  refine lv_aload_n hx hb dX12_go_76 rfl (lv_at hl 0 rfl) ?_
  refine lv_iconst (v := hz_i 0) hx hb dX12_go_77 (by decide +kernel) ?_
  refine mw_put (ty := .int) (v := .int (hz_i 0)) hx hb hts hin12 hown hK hP hD hS 35 (by decide) (hts (.fieldLink RX12 256 "HiddenMovesModel" "fault" "I") (List.mem_cons_of_mem _ (List.mem_append_left _ (List.mem_append_left _ (List.mem_of_getElem? (i := 7) rfl))))) (fun _ h9 => h9) rfl (by decide +kernel) rfl rfl (mw_s35 R z 0) dX12_go_78 (fun H locs hP hD hS => ?_)
  obtain ⟨z_17, hz_17⟩ : ∃ y : Nat → Int, y = lp_U z 35 0 := ⟨_, rfl⟩
  rw [← hz_17] at hP hD
  have hw := hw z_17 hz_17
  refine lv_aload_n hx hb dX12_go_81 rfl (lv_at hl 0 rfl) ?_
  refine lv_iconst (v := hz_i 0) hx hb dX12_go_82 (by decide +kernel) ?_
  refine mw_put (ty := .int) (v := .int (hz_i 0)) hx hb hts hin12 hown hK hP hD hS 45 (by decide) (hts (.fieldLink RX12 275 "HiddenMovesModel" "open" "I") (List.mem_cons_of_mem _ (List.mem_append_left _ (List.mem_append_left _ (List.mem_of_getElem? (i := 8) rfl))))) (fun _ h9 => h9) rfl (by decide +kernel) rfl rfl (mw_s45 R z_17 0) dX12_go_83 (fun H locs hP hD hS => ?_)
  obtain ⟨z_18, hz_18⟩ : ∃ y : Nat → Int, y = lp_U z_17 45 0 := ⟨_, rfl⟩
  rw [← hz_18] at hP hD
  have hw := hw z_18 hz_18
  refine lv_aload_n hx hb dX12_go_86 rfl (lv_at hl 0 rfl) ?_
  refine lv_iconst (v := hz_i 0) hx hb dX12_go_87 (by decide +kernel) ?_
  refine mw_put (ty := .int) (v := .int (hz_i 0)) hx hb hts hin12 hown hK hP hD hS 46 (by decide) (hts (.fieldLink RX12 262 "HiddenMovesModel" "at" "I") (List.mem_cons_of_mem _ (List.mem_append_left _ (List.mem_append_left _ (List.mem_of_getElem? (i := 9) rfl))))) (fun _ h9 => h9) rfl (by decide +kernel) rfl rfl (mw_s46 R z_18 0) dX12_go_88 (fun H locs hP hD hS => ?_)
  obtain ⟨z_19, hz_19⟩ : ∃ y : Nat → Int, y = lp_U z_18 46 0 := ⟨_, rfl⟩
  rw [← hz_19] at hP hD
  have hw := hw z_19 hz_19
  refine lv_aload_n hx hb dX12_go_91 rfl (lv_at hl 0 rfl) ?_
  refine lv_lconst (v := hz_l 1) hx hb dX12_go_92 (by decide +kernel) ?_
  refine lv_lconst (v := hz_l 1) hx hb dX12_go_93 (by decide +kernel) ?_
  have hFc := mw_free hD hS hA
  refine va_callv (va_runV (As := [.long (hz_l 1), .long (hz_l 1)]) (rest := []) ⟨hx, hb, hml, hown, hts⟩ (k_beginNode l D _ om R C z_19 A_16 1 1 _ hw) (cwV 2 hts gX12_go_X12_beginNode rfl rfl rfl (by decide +kernel) ⟨Nat.le_of_ble_eq_true rfl, Nat.le_of_ble_eq_true rfl⟩) ⟨hm_blind, va_recv hK hP (ci := 12) (q0 := 0) rfl rfl, hm_pre hP hK hD hE⟩ rfl rfl hl.1 rfl (lv_room (Nat.le_of_ble_eq_true rfl)) dX12_go_94 ⟨Nat.le_of_ble_eq_true rfl, Nat.le_of_ble_eq_true rfl⟩) hS (fun q _ h => hFc q h) hFc (fun u t H1 locs ht hvm hw hB hz1 hk1 hS => ?_)
  obtain ⟨r_20, z_21, A_22⟩ := u
  obtain ⟨hP, hK1, hD1⟩ := hB
  rw [ht] at hP
  have hD := hD1.weaken (fun k q _ h => hFc q.1 h)
  have hP : va_P D vwCl (mw_w om R C z_21 A_22) H1 := hP
  have hD : va_D Ad (mw_w om R C z_21 A_22) := hD
  generalize H1 = H at hP hS ⊢
  refine W.eq (g2 := F0 m 97 ls []) rfl ?_
  exact L97 z_21 A_22 hw H locs ls hP hD hS (lv_sub hl [0] rfl)

noncomputable def wp_read_127 (z : Nat → Int) (A : Nat → Nat → Int) (x2 : Int) (t0 : Int) (t1 : Int) (P105 : (Nat → Nat → Int) → Int → Prop) (Q : Int → (Nat → Int) → (Nat → Nat → Int) → Prop) : Prop := (0 ≤ t1 ∧ t1 < 80) ∧ ∀ A_1 : Nat → Nat → Int, A_1 = hz_s A 49 t1 t0 → (0 ≤ x2 ∧ x2 < 80) ∧ ∀ A_2 : Nat → Nat → Int, A_2 = hz_s A_1 50 x2 1 → ∀ x2_3 : Int, x2_3 = x2 + 1 → P105 A_2 x2_3
noncomputable def wp_read_105 (z : Nat → Int) (A : Nat → Nat → Int) (x2 : Int) (Q : Int → (Nat → Int) → (Nat → Nat → Int) → Prop) : Prop := ∀ P105 : (Nat → Nat → Int) → Int → Prop, (∀ (A : Nat → Nat → Int) (x2 : Int), hz_rI x2 ∧ ((80 ≤ x2 → Q 0 z A) ∧ (¬ (80 ≤ x2) → hz_rI x2 ∧ hz_rI (x2.tmod 4) ∧ ((¬ x2.tmod 4 = 0 → wp_read_127 z A x2 0 x2 P105 Q) ∧ (x2.tmod 4 = 0 → wp_read_127 z A x2 1 x2 P105 Q)))) → P105 A x2) → P105 A x2
noncomputable def wp_read_85 (z : Nat → Int) (A : Nat → Nat → Int) (x2 : Int) (Q : Int → (Nat → Int) → (Nat → Nat → Int) → Prop) : Prop := ∀ P85 : (Nat → Nat → Int) → Int → Prop, (∀ (A : Nat → Nat → Int) (x2 : Int), hz_rI x2 ∧ ((4 ≤ x2 → wp_read_105 z A 0  Q) ∧ (¬ (4 ≤ x2) → (0 ≤ x2 ∧ x2 < 4) ∧ ∀ A_7 : Nat → Nat → Int, A_7 = hz_s A 51 x2 0 → ∀ x2_8 : Int, x2_8 = x2 + 1 → P85 A_7 x2_8)) → P85 A x2) → P85 A x2
noncomputable def wp_read (z : Nat → Int) (A : Nat → Nat → Int) (Q : Int → (Nat → Int) → (Nat → Nat → Int) → Prop) : Prop := ∀ z_9 : Nat → Int, z_9 = lp_U z 3 0 → wp_cut z_9 A (fun z_11 A_12 => ∀ z_13 : Nat → Int, z_13 = lp_U z_11 5 0 → wp_bad z_13 A_12 (fun r_14 z_15 A_16 => hz_rI r_14 ∧ ((r_14 < 0 → wp_go z_15 A_16 (fun r_18 z_19 A_20 => hz_rI r_18 ∧ ((r_18 = 0 → ∀ z_22 : Nat → Int, z_22 = lp_U z_19 32 (z_19 33) → ∀ z_23 : Nat → Int, z_23 = lp_U z_22 33 (1 - (z_22 32)) → ∀ z_24 : Nat → Int, z_24 = lp_U z_23 34 1 → ∀ z_25 : Nat → Int, z_25 = lp_U z_24 6 (-1) → wp_read_85 z_25 A_20 0  Q) ∧ (¬ (r_18 = 0) → ∀ z_26 : Nat → Int, z_26 = lp_U z_19 6 (z_19 36) → Q (z_26 35) z_26 A_20)))) ∧ (¬ (r_14 < 0) → (0 ≤ r_14 ∧ r_14 < 4001) ∧ ∀ z_27 : Nat → Int, z_27 = lp_U z_15 6 (A_16 8 (r_14.toNat)) → Q 1 z_27 A_16))))
set_option maxHeartbeats 4000000 in
set_option maxRecDepth 100000 in
theorem k_read (l : Launch) (D : va_G) (sz : Nat) (om : Nat) (R : Nat → Nat) (C : Nat → ClassId) (z : Nat → Int) (A : Nat → Nat → Int) (Q : Int → (Nat → Int) → (Nat → Nat → Int) → Prop) (hw : wp_read z A Q) : Met l yX12_read wsX12_read ({ frames := 5, cells := 0, slots := 0, locals := 133 } : Room) (va_Pc [.ref om] (hm_P D (mw_w om R C z A) (mw_t C) sz)) (va_Qi (S := Int × (Nat → Int) × (Nat → Nat → Int)) (fun r u => r = hz_i u.1 ∧ Q u.1 u.2.1 u.2.2) (fun u t => hm_B D (va_A (mw_w om R C z A) sz) (mw_w om R C u.2.1 u.2.2) (mw_t C) t) (va_A (mw_w om R C z A) sz)) 0 0 (va_A (mw_w om R C z A) sz) := by
  refine Met.ofW (cc := cX12_read) (maxL := 3) (ret := (some .int)) (by decide) rfl ?_
  intro p e s m args below meth c s₁ B hml hv
  obtain ⟨rfl, hsz, hP, hK, hD0, hE⟩ := hv
  have hx := B.exec
  have hb := B.bytes
  have hr := B.returns
  have hts := atoms_spec (ws := wsX12_read) B.pre
  have hown : s.vm.findClass RX12 = some m.cls := findClass_of_methodNamed B.named
  have hlocks := B.notSynchronized
  have hin12 : ∀ w ∈ u_ws RX12 TX12 58, w ∈ wsX12_read := fun w h => List.mem_cons_of_mem _ (List.mem_append_right _ (h))
  subst hsz
  have hD := hD0.self (sz := s.heap.size)
  generalize hAe : va_A (mw_w om R C z A) s.heap.size = Ad at hD ⊢
  have hA : ∀ q : Nat, s.heap.size ≤ q → Ad q := fun q h => by rw [← hAe]; exact Or.inr h
  have hS : va_S Ad s.heap s.heap [] := va_S.rf
  have hl := lv_entry ([.ref om]) (n := 3) (Nat.le_of_ble_eq_true rfl)
  rw [lg_entry_eq]
  generalize (lg_sl ([.ref om]) ++ List.replicate (3 - (lg_sl ([.ref om])).length) Slot.unset).toArray = ls at hl ⊢
  have hl : lv_has ls 3 [(0, .ref om)] := hl
  refine mw_Q (fun QQ hQQ => ?_)
  have hP0 := hP; have hD0 := hD; have hS0 := hS; have hl0 := hl; have hw0 := hw
  clear hP hD hS hl hw
  have L105 : ∀ (z : Nat → Int) (A : Nat → Nat → Int) (x2 : Int), wp_read_105 z A x2  Q → ∀ (H : Heap) (locs : List Loc) (ls : Array Slot), va_P D vwCl (mw_w om R C z A) H → va_D Ad (mw_w om R C z A) → va_S Ad s.heap H locs → lv_has ls 3 [(0, .ref om), (2, .int (hz_i x2))] → W p l e (headSpec wsX12_read ({ frames := 5, cells := 0, slots := 0, locals := 133 } : Room)).room s m (List.toArray [.ref om]) below meth c H locs 0 0 QQ (F0 m 105 ls []) := by
    intro z A x2 hw
    obtain ⟨P105, hP105⟩ : ∃ P : (Nat → Nat → Int) → Int → Prop, ∀ (A : Nat → Nat → Int) (x2 : Int), P A x2 ↔ (∀ (H : Heap) (locs : List Loc) (ls : Array Slot), va_P D vwCl (mw_w om R C z A) H → va_D Ad (mw_w om R C z A) → va_S Ad s.heap H locs → lv_has ls 3 [(0, .ref om), (2, .int (hz_i x2))] → W p l e (headSpec wsX12_read ({ frames := 5, cells := 0, slots := 0, locals := 133 } : Room)).room s m (List.toArray [.ref om]) below meth c H locs 0 0 QQ (F0 m 105 ls [])) := ⟨fun (A : Nat → Nat → Int) (x2 : Int) => ∀ (H : Heap) (locs : List Loc) (ls : Array Slot), va_P D vwCl (mw_w om R C z A) H → va_D Ad (mw_w om R C z A) → va_S Ad s.heap H locs → lv_has ls 3 [(0, .ref om), (2, .int (hz_i x2))] → W p l e (headSpec wsX12_read ({ frames := 5, cells := 0, slots := 0, locals := 133 } : Room)).room s m (List.toArray [.ref om]) below meth c H locs 0 0 QQ (F0 m 105 ls []), fun _ _ => Iff.rfl⟩
    refine (hP105 A x2).mp (hw P105 ?_)
    intro A x2 hw
    refine (hP105 A x2).mpr ?_
    intro H locs ls hP hD hS hl
    have L127 : ∀ (A : Nat → Nat → Int) (x2 : Int) (t0 : Int) (t1 : Int), wp_read_127 z A x2 t0 t1 P105 Q → ∀ (H : Heap) (locs : List Loc) (ls : Array Slot), va_P D vwCl (mw_w om R C z A) H → va_D Ad (mw_w om R C z A) → va_S Ad s.heap H locs → lv_has ls 3 [(0, .ref om), (2, .int (hz_i x2))] → W p l e (headSpec wsX12_read ({ frames := 5, cells := 0, slots := 0, locals := 133 } : Room)).room s m (List.toArray [.ref om]) below meth c H locs 0 0 QQ (F0 m 127 ls [.int (hz_i t0), .int (hz_i t1), .ref (R 49)]) := by
      intro A x2 t0 t1 hw H locs ls hP hD hS hl
      obtain ⟨h9i, hw⟩ := hw
      refine mw_ist (k := 49) (n := 80) (i := t1) (v := t0) hx hb hK hP hD hS 36 35 rfl rfl (mw_a49 om R C z A) h9i (by decide) dX12_read_127 (fun H locs hP hD hS => ?_)
      obtain ⟨A_1, hA_1⟩ : ∃ y : Nat → Nat → Int, y = hz_s A 49 t1 t0 := ⟨_, rfl⟩
      rw [← hA_1] at hP hD
      have hw := hw A_1 hA_1
      refine lv_aload_n hx hb dX12_read_128 rfl (lv_at hl 0 rfl) ?_
      refine mw_get (v := .ref (R 50)) hx hb hts hin12 hown hK hP 50 (by decide) (hts (.fieldLink RX12 202 "HiddenMovesModel" "wayBottom" "[I") (List.mem_cons_of_mem _ (List.mem_append_left _ (List.mem_append_left _ (List.mem_of_getElem? (i := 11) rfl))))) (fun _ h9 => h9) rfl dX12_read_129 ?_
      refine lv_iload_n hx hb dX12_read_132 rfl (lv_at hl 1 rfl) ?_
      refine lv_iconst (v := hz_i 1) hx hb dX12_read_133 (by decide +kernel) ?_
      obtain ⟨h9i, hw⟩ := hw
      refine mw_ist (k := 50) (n := 80) (i := x2) (v := 1) hx hb hK hP hD hS 37 36 rfl rfl (mw_a50 om R C z A_1) h9i (by decide) dX12_read_134 (fun H locs hP hD hS => ?_)
      obtain ⟨A_2, hA_2⟩ : ∃ y : Nat → Nat → Int, y = hz_s A_1 50 x2 1 := ⟨_, rfl⟩
      rw [← hA_2] at hP hD
      have hw := hw A_2 hA_2
      obtain ⟨x2_3, hx2_3⟩ : ∃ y : Int, y = x2 + 1 := ⟨_, rfl⟩
      have hw := hw x2_3 hx2_3
      refine lv_iinc (v := hz_i x2_3) (lv' := [(2, .int (hz_i x2_3)), (0, .ref om)]) hx hb dX12_read_135 hl (k := 1) rfl (by rw [hx2_3]; exact hz_i_add _ _) (by decide) rfl (fun ls hl => ?_)
      refine lv_goto (tgt := 105) hx hb dX12_read_138 (by decide) ?_
      exact (hP105 A_2 x2_3).mp hw H locs ls hP hD hS (lv_sub hl [1, 0] rfl)
    refine lv_iload_n hx hb dX12_read_105 rfl (lv_at hl 1 rfl) ?_
    refine lv_bipush (v := hz_i 80) hx hb dX12_read_106 (by decide +kernel) ?_
    obtain ⟨h9a, hw⟩ := hw
    refine hz_icmp_ge (tgt := 141) hx hb dX12_read_108 (by decide) h9a ⟨by decide, by decide⟩ (fun c_4 => ?_) (fun c_4 => ?_)
    · have hw := hw.1 c_4
      refine lv_iconst (v := hz_i 0) hx hb dX12_read_141 (by decide +kernel) ?_
      subst hQQ
      subst hAe
      exact W.iret (v := hz_i 0) hx hb hr (fun t ht hW => ⟨⟨hz_i 0, (0, z, A), rfl, ⟨rfl, hw⟩, by rw [ht]; exact hP, va_K.moved hW.alike hK, hD⟩, hS.F ht⟩) hS.2.2 dX12_read_142
    · have hw := hw.2 c_4
      refine lv_aload_n hx hb dX12_read_111 rfl (lv_at hl 0 rfl) ?_
      refine mw_get (v := .ref (R 49)) hx hb hts hin12 hown hK hP 49 (by decide) (hts (.fieldLink RX12 199 "HiddenMovesModel" "wayTop" "[I") (List.mem_cons_of_mem _ (List.mem_append_left _ (List.mem_append_left _ (List.mem_of_getElem? (i := 10) rfl))))) (fun _ h9 => h9) rfl dX12_read_112 ?_
      refine lv_iload_n hx hb dX12_read_115 rfl (lv_at hl 1 rfl) ?_
      refine lv_iload_n hx hb dX12_read_116 rfl (lv_at hl 1 rfl) ?_
      refine lv_iconst (v := hz_i 4) hx hb dX12_read_117 (by decide +kernel) ?_
      obtain ⟨h9a, hw⟩ := hw
      refine hz_irem hx hb dX12_read_118 (by decide) h9a ⟨by decide, by decide⟩ ?_
      obtain ⟨h9a, hw⟩ := hw
      refine hz_if_ne (tgt := 126) hx hb dX12_read_119 (by decide) h9a (fun c_5 => ?_) (fun c_5 => ?_)
      · have hw := hw.1 c_5
        refine lv_iconst (v := hz_i 0) hx hb dX12_read_126 (by decide +kernel) ?_
        exact L127 A x2 0 x2 hw H locs ls hP hD hS (lv_sub hl [0, 1] rfl)
      · have hw := hw.2 c_5
        refine lv_iconst (v := hz_i 1) hx hb dX12_read_122 (by decide +kernel) ?_
        refine lv_goto (tgt := 127) hx hb dX12_read_123 (by decide) ?_
        exact L127 A x2 1 x2 hw H locs ls hP hD hS (lv_sub hl [0, 1] rfl)
  have L85 : ∀ (z : Nat → Int) (A : Nat → Nat → Int) (x2 : Int), wp_read_85 z A x2  Q → ∀ (H : Heap) (locs : List Loc) (ls : Array Slot), va_P D vwCl (mw_w om R C z A) H → va_D Ad (mw_w om R C z A) → va_S Ad s.heap H locs → lv_has ls 3 [(0, .ref om), (2, .int (hz_i x2))] → W p l e (headSpec wsX12_read ({ frames := 5, cells := 0, slots := 0, locals := 133 } : Room)).room s m (List.toArray [.ref om]) below meth c H locs 0 0 QQ (F0 m 85 ls []) := by
    intro z A x2 hw
    obtain ⟨P85, hP85⟩ : ∃ P : (Nat → Nat → Int) → Int → Prop, ∀ (A : Nat → Nat → Int) (x2 : Int), P A x2 ↔ (∀ (H : Heap) (locs : List Loc) (ls : Array Slot), va_P D vwCl (mw_w om R C z A) H → va_D Ad (mw_w om R C z A) → va_S Ad s.heap H locs → lv_has ls 3 [(0, .ref om), (2, .int (hz_i x2))] → W p l e (headSpec wsX12_read ({ frames := 5, cells := 0, slots := 0, locals := 133 } : Room)).room s m (List.toArray [.ref om]) below meth c H locs 0 0 QQ (F0 m 85 ls [])) := ⟨fun (A : Nat → Nat → Int) (x2 : Int) => ∀ (H : Heap) (locs : List Loc) (ls : Array Slot), va_P D vwCl (mw_w om R C z A) H → va_D Ad (mw_w om R C z A) → va_S Ad s.heap H locs → lv_has ls 3 [(0, .ref om), (2, .int (hz_i x2))] → W p l e (headSpec wsX12_read ({ frames := 5, cells := 0, slots := 0, locals := 133 } : Room)).room s m (List.toArray [.ref om]) below meth c H locs 0 0 QQ (F0 m 85 ls []), fun _ _ => Iff.rfl⟩
    refine (hP85 A x2).mp (hw P85 ?_)
    intro A x2 hw
    refine (hP85 A x2).mpr ?_
    intro H locs ls hP hD hS hl
    refine lv_iload_n hx hb dX12_read_85 rfl (lv_at hl 1 rfl) ?_
    refine lv_iconst (v := hz_i 4) hx hb dX12_read_86 (by decide +kernel) ?_
    obtain ⟨h9a, hw⟩ := hw
    refine hz_icmp_ge (tgt := 103) hx hb dX12_read_87 (by decide) h9a ⟨by decide, by decide⟩ (fun c_6 => ?_) (fun c_6 => ?_)
    · have hw := hw.1 c_6
      refine lv_iconst (v := hz_i 0) hx hb dX12_read_103 (by decide +kernel) ?_
      refine lv_istore_n (lv' := [(2, .int (hz_i 0)), (0, .ref om)]) hx hb dX12_read_104 rfl hl (by decide) rfl (fun ls hl => ?_)
      exact L105 z A 0 hw H locs ls hP hD hS (lv_sub hl [1, 0] rfl)
    · have hw := hw.2 c_6
      refine lv_aload_n hx hb dX12_read_90 rfl (lv_at hl 0 rfl) ?_
      refine mw_get (v := .ref (R 51)) hx hb hts hin12 hown hK hP 51 (by decide) (hts (.fieldLink RX12 205 "HiddenMovesModel" "isThere" "[Z") (List.mem_cons_of_mem _ (List.mem_append_left _ (List.mem_append_left _ (List.mem_of_getElem? (i := 9) rfl))))) (fun _ h9 => h9) rfl dX12_read_91 ?_
      refine lv_iload_n hx hb dX12_read_94 rfl (lv_at hl 1 rfl) ?_
      refine lv_iconst (v := hz_i 0) hx hb dX12_read_95 (by decide +kernel) ?_
      obtain ⟨h9i, hw⟩ := hw
      refine mw_zst (k := 51) (n := 4) (i := x2) (v := 0) hx hb hK hP hD hS 38 37 rfl rfl (mw_a51 om R C z A) h9i (by decide) (by decide) dX12_read_96 (fun H locs hP hD hS => ?_)
      obtain ⟨A_7, hA_7⟩ : ∃ y : Nat → Nat → Int, y = hz_s A 51 x2 0 := ⟨_, rfl⟩
      rw [← hA_7] at hP hD
      have hw := hw A_7 hA_7
      obtain ⟨x2_8, hx2_8⟩ : ∃ y : Int, y = x2 + 1 := ⟨_, rfl⟩
      have hw := hw x2_8 hx2_8
      refine lv_iinc (v := hz_i x2_8) (lv' := [(2, .int (hz_i x2_8)), (0, .ref om)]) hx hb dX12_read_97 hl (k := 1) rfl (by rw [hx2_8]; exact hz_i_add _ _) (by decide) rfl (fun ls hl => ?_)
      refine lv_goto (tgt := 85) hx hb dX12_read_100 (by decide) ?_
      exact (hP85 A_7 x2_8).mp hw H locs ls hP hD hS (lv_sub hl [1, 0] rfl)
  have hP := hP0; have hD := hD0; have hS := hS0; have hl := hl0; have hw := hw0
  obtain ⟨H, hH⟩ : ∃ H : Heap, H = s.heap := ⟨_, rfl⟩
  obtain ⟨locs, hlocs⟩ : ∃ L : List Loc, L = [] := ⟨_, rfl⟩
  rw [← hH] at hP
  have hS : va_S Ad s.heap H locs := by rw [hH, hlocs]; exact hS
  refine mw_HL hH hlocs ?_
  refine lv_aload_n hx hb dX12_read_0 rfl (lv_at hl 0 rfl) ?_
  refine lv_iconst (v := hz_i 0) hx hb dX12_read_1 (by decide +kernel) ?_
  refine mw_put (ty := .int) (v := .int (hz_i 0)) hx hb hts hin12 hown hK hP hD hS 3 (by decide) (hts (.fieldLink RX12 223 "HiddenMovesModel" "thrown" "I") (List.mem_cons_of_mem _ (List.mem_append_left _ (List.mem_append_left _ (List.mem_of_getElem? (i := 0) rfl))))) (fun _ h9 => h9) rfl (by decide +kernel) rfl rfl (mw_s3 R z 0) dX12_read_2 (fun H locs hP hD hS => ?_)
  obtain ⟨z_9, hz_9⟩ : ∃ y : Nat → Int, y = lp_U z 3 0 := ⟨_, rfl⟩
  rw [← hz_9] at hP hD
  have hw := hw z_9 hz_9
  refine lv_aload_n hx hb dX12_read_5 rfl (lv_at hl 0 rfl) ?_
  have hFc := mw_free hD hS hA
  refine va_callv (va_runV (As := []) (rest := []) ⟨hx, hb, hml, hown, hts⟩ (k_cut l D _ om R C z_9 A _ hw) (cwV 0 hts gX12_read_X12_cut rfl rfl rfl (by decide +kernel) ⟨Nat.le_of_ble_eq_true rfl, Nat.le_of_ble_eq_true rfl⟩) ⟨hm_blind, va_recv hK hP (ci := 12) (q0 := 0) rfl rfl, hm_pre hP hK hD hE⟩ rfl rfl hl.1 rfl (lv_room (Nat.le_of_ble_eq_true rfl)) dX12_read_6 ⟨Nat.le_of_ble_eq_true rfl, Nat.le_of_ble_eq_true rfl⟩) hS (fun q _ h => hFc q h) hFc (fun u t H1 locs ht hvm hw hB hz1 hk1 hS => ?_)
  obtain ⟨r_10, z_11, A_12⟩ := u
  obtain ⟨hP, hK1, hD1⟩ := hB
  rw [ht] at hP
  have hD := hD1.weaken (fun k q _ h => hFc q.1 h)
  have hP : va_P D vwCl (mw_w om R C z_11 A_12) H1 := hP
  have hD : va_D Ad (mw_w om R C z_11 A_12) := hD
  generalize H1 = H at hP hS ⊢
  refine W.eq (g2 := F0 m 9 ls []) rfl ?_
  refine lv_aload_n hx hb dX12_read_9 rfl (lv_at hl 0 rfl) ?_
  refine lv_iconst (v := hz_i 0) hx hb dX12_read_10 (by decide +kernel) ?_
  refine mw_put (ty := .int) (v := .int (hz_i 0)) hx hb hts hin12 hown hK hP hD hS 5 (by decide) (hts (.fieldLink RX12 226 "HiddenMovesModel" "length" "I") (List.mem_cons_of_mem _ (List.mem_append_left _ (List.mem_append_left _ (List.mem_of_getElem? (i := 1) rfl))))) (fun _ h9 => h9) rfl (by decide +kernel) rfl rfl (mw_s5 R z_11 0) dX12_read_11 (fun H locs hP hD hS => ?_)
  obtain ⟨z_13, hz_13⟩ : ∃ y : Nat → Int, y = lp_U z_11 5 0 := ⟨_, rfl⟩
  rw [← hz_13] at hP hD
  have hw := hw z_13 hz_13
  refine lv_aload_n hx hb dX12_read_14 rfl (lv_at hl 0 rfl) ?_
  have hFc := mw_free hD hS hA
  refine va_calli (va_runV (As := []) (rest := []) ⟨hx, hb, hml, hown, hts⟩ (k_bad l D _ om R C z_13 A_12 _ hw) (cwV 0 hts gX12_read_X12_bad rfl rfl rfl (by decide +kernel) ⟨Nat.le_of_ble_eq_true rfl, Nat.le_of_ble_eq_true rfl⟩) ⟨hm_blind, va_recv hK hP (ci := 12) (q0 := 0) rfl rfl, hm_pre hP hK hD hE⟩ rfl rfl hl.1 rfl (lv_room (Nat.le_of_ble_eq_true rfl)) dX12_read_15 ⟨Nat.le_of_ble_eq_true rfl, Nat.le_of_ble_eq_true rfl⟩) hS (fun q _ h => hFc q h) hFc (fun rv u t H1 locs ht hvm hw hB hz1 hk1 hS => ?_)
  obtain ⟨r_14, z_15, A_16⟩ := u
  obtain ⟨hP, hK1, hD1⟩ := hB
  rw [ht] at hP
  obtain ⟨hrv, hw⟩ := hw
  subst hrv
  have hD := hD1.weaken (fun k q _ h => hFc q.1 h)
  have hP : va_P D vwCl (mw_w om R C z_15 A_16) H1 := hP
  have hD : va_D Ad (mw_w om R C z_15 A_16) := hD
  generalize H1 = H at hP hS ⊢
  refine W.eq (g2 := F0 m 18 ls [.int (hz_i r_14)]) rfl ?_
  refine lv_istore_n (lv' := [(1, .int (hz_i r_14)), (0, .ref om)]) hx hb dX12_read_18 rfl hl (by decide) rfl (fun ls hl => ?_)
  refine lv_iload_n hx hb dX12_read_19 rfl (lv_at hl 0 rfl) ?_
  obtain ⟨h9a, hw⟩ := hw
  refine hz_if_lt (tgt := 35) hx hb dX12_read_20 (by decide) h9a (fun c_17 => ?_) (fun c_17 => ?_)
  · have hw := hw.1 c_17
    refine lv_aload_n hx hb dX12_read_35 rfl (lv_at hl 1 rfl) ?_
    have hFc := mw_free hD hS hA
    refine va_calli (va_runV (As := []) (rest := []) ⟨hx, hb, hml, hown, hts⟩ (k_go l D _ om R C z_15 A_16 _ hw) (cwV 0 hts gX12_read_X12_go rfl rfl rfl (by decide +kernel) ⟨Nat.le_of_ble_eq_true rfl, Nat.le_of_ble_eq_true rfl⟩) ⟨hm_blind, va_recv hK hP (ci := 12) (q0 := 0) rfl rfl, hm_pre hP hK hD hE⟩ rfl rfl hl.1 rfl (lv_room (Nat.le_of_ble_eq_true rfl)) dX12_read_36 ⟨Nat.le_of_ble_eq_true rfl, Nat.le_of_ble_eq_true rfl⟩) hS (fun q _ h => hFc q h) hFc (fun rv u t H1 locs ht hvm hw hB hz1 hk1 hS => ?_)
    obtain ⟨r_18, z_19, A_20⟩ := u
    obtain ⟨hP, hK1, hD1⟩ := hB
    rw [ht] at hP
    obtain ⟨hrv, hw⟩ := hw
    subst hrv
    have hD := hD1.weaken (fun k q _ h => hFc q.1 h)
    have hP : va_P D vwCl (mw_w om R C z_19 A_20) H1 := hP
    have hD : va_D Ad (mw_w om R C z_19 A_20) := hD
    generalize H1 = H at hP hS ⊢
    refine W.eq (g2 := F0 m 39 ls [.int (hz_i r_18)]) rfl ?_
    obtain ⟨h9a, hw⟩ := hw
    refine hz_if_eq (tgt := 55) hx hb dX12_read_39 (by decide) h9a (fun c_21 => ?_) (fun c_21 => ?_)
    · have hw := hw.1 c_21
      refine lv_aload_n hx hb dX12_read_55 rfl (lv_at hl 1 rfl) ?_
      refine lv_aload_n hx hb dX12_read_56 rfl (lv_at hl 1 rfl) ?_
      refine mw_get (v := .int (hz_i (z_19 33))) hx hb hts hin12 hown hK hP 33 (by decide) (hts (.fieldLink RX12 172 "HiddenMovesModel" "draft" "I") (List.mem_cons_of_mem _ (List.mem_append_left _ (List.mem_append_left _ (List.mem_of_getElem? (i := 6) rfl))))) (fun _ h9 => h9) rfl dX12_read_57 ?_
      refine mw_put (ty := .int) (v := .int (hz_i (z_19 33))) hx hb hts hin12 hown hK hP hD hS 32 (by decide) (hts (.fieldLink RX12 328 "HiddenMovesModel" "game" "I") (List.mem_cons_of_mem _ (List.mem_append_left _ (List.mem_append_left _ (List.mem_of_getElem? (i := 7) rfl))))) (fun _ h9 => h9) rfl (by decide +kernel) rfl rfl (mw_s32 R z_19 (z_19 33)) dX12_read_60 (fun H locs hP hD hS => ?_)
      obtain ⟨z_22, hz_22⟩ : ∃ y : Nat → Int, y = lp_U z_19 32 (z_19 33) := ⟨_, rfl⟩
      rw [← hz_22] at hP hD
      have hw := hw z_22 hz_22
      refine lv_aload_n hx hb dX12_read_63 rfl (lv_at hl 1 rfl) ?_
      refine lv_iconst (v := hz_i 1) hx hb dX12_read_64 (by decide +kernel) ?_
      refine lv_aload_n hx hb dX12_read_65 rfl (lv_at hl 1 rfl) ?_
      refine mw_get (v := .int (hz_i (z_22 32))) hx hb hts hin12 hown hK hP 32 (by decide) (hts (.fieldLink RX12 328 "HiddenMovesModel" "game" "I") (List.mem_cons_of_mem _ (List.mem_append_left _ (List.mem_append_left _ (List.mem_of_getElem? (i := 7) rfl))))) (fun _ h9 => h9) rfl dX12_read_66 ?_
      refine hz_isub hx hb dX12_read_69 ?_
      refine mw_put (ty := .int) (v := .int (hz_i (1 - (z_22 32)))) hx hb hts hin12 hown hK hP hD hS 33 (by decide) (hts (.fieldLink RX12 172 "HiddenMovesModel" "draft" "I") (List.mem_cons_of_mem _ (List.mem_append_left _ (List.mem_append_left _ (List.mem_of_getElem? (i := 6) rfl))))) (fun _ h9 => h9) rfl (by decide +kernel) rfl rfl (mw_s33 R z_22 (1 - (z_22 32))) dX12_read_70 (fun H locs hP hD hS => ?_)
      obtain ⟨z_23, hz_23⟩ : ∃ y : Nat → Int, y = lp_U z_22 33 (1 - (z_22 32)) := ⟨_, rfl⟩
      rw [← hz_23] at hP hD
      have hw := hw z_23 hz_23
      refine lv_aload_n hx hb dX12_read_73 rfl (lv_at hl 1 rfl) ?_
      refine lv_iconst (v := hz_i 1) hx hb dX12_read_74 (by decide +kernel) ?_
      refine mw_put (ty := .boolean) (v := .int (hz_i 1)) hx hb hts hin12 hown hK hP hD hS 34 (by decide) (hts (.fieldLink RX12 331 "HiddenMovesModel" "known" "Z") (List.mem_cons_of_mem _ (List.mem_append_left _ (List.mem_append_left _ (List.mem_of_getElem? (i := 8) rfl))))) (fun _ h9 => h9) rfl (by decide +kernel) (hz_tZ (by decide)) (hz_fZ (by decide)) (mw_s34 R z_23 1) dX12_read_75 (fun H locs hP hD hS => ?_)
      obtain ⟨z_24, hz_24⟩ : ∃ y : Nat → Int, y = lp_U z_23 34 1 := ⟨_, rfl⟩
      rw [← hz_24] at hP hD
      have hw := hw z_24 hz_24
      refine lv_aload_n hx hb dX12_read_78 rfl (lv_at hl 1 rfl) ?_
      refine lv_iconst (v := hz_i (-1)) hx hb dX12_read_79 (by decide +kernel) ?_
      refine mw_put (ty := .int) (v := .int (hz_i (-1))) hx hb hts hin12 hown hK hP hD hS 6 (by decide) (hts (.fieldLink RX12 98 "HiddenMovesModel" "wrong" "I") (List.mem_cons_of_mem _ (List.mem_append_left _ (List.mem_append_left _ (List.mem_of_getElem? (i := 3) rfl))))) (fun _ h9 => h9) rfl (by decide +kernel) rfl rfl (mw_s6 R z_24 (-1)) dX12_read_80 (fun H locs hP hD hS => ?_)
      obtain ⟨z_25, hz_25⟩ : ∃ y : Nat → Int, y = lp_U z_24 6 (-1) := ⟨_, rfl⟩
      rw [← hz_25] at hP hD
      have hw := hw z_25 hz_25
      refine lv_iconst (v := hz_i 0) hx hb dX12_read_83 (by decide +kernel) ?_
      refine lv_istore_n (lv' := [(2, .int (hz_i 0)), (1, .int (hz_i r_14)), (0, .ref om)]) hx hb dX12_read_84 rfl hl (by decide) rfl (fun ls hl => ?_)
      exact L85 z_25 A_20 0 hw H locs ls hP hD hS (lv_sub hl [2, 0] rfl)
    · have hw := hw.2 c_21
      refine lv_aload_n hx hb dX12_read_42 rfl (lv_at hl 1 rfl) ?_
      refine lv_aload_n hx hb dX12_read_43 rfl (lv_at hl 1 rfl) ?_
      refine mw_get (v := .int (hz_i (z_19 36))) hx hb hts hin12 hown hK hP 36 (by decide) (hts (.fieldLink RX12 259 "HiddenMovesModel" "faultPlace" "I") (List.mem_cons_of_mem _ (List.mem_append_left _ (List.mem_append_left _ (List.mem_of_getElem? (i := 4) rfl))))) (fun _ h9 => h9) rfl dX12_read_44 ?_
      refine mw_put (ty := .int) (v := .int (hz_i (z_19 36))) hx hb hts hin12 hown hK hP hD hS 6 (by decide) (hts (.fieldLink RX12 98 "HiddenMovesModel" "wrong" "I") (List.mem_cons_of_mem _ (List.mem_append_left _ (List.mem_append_left _ (List.mem_of_getElem? (i := 3) rfl))))) (fun _ h9 => h9) rfl (by decide +kernel) rfl rfl (mw_s6 R z_19 (z_19 36)) dX12_read_47 (fun H locs hP hD hS => ?_)
      obtain ⟨z_26, hz_26⟩ : ∃ y : Nat → Int, y = lp_U z_19 6 (z_19 36) := ⟨_, rfl⟩
      rw [← hz_26] at hP hD
      have hw := hw z_26 hz_26
      refine lv_aload_n hx hb dX12_read_50 rfl (lv_at hl 1 rfl) ?_
      refine mw_get (v := .int (hz_i (z_26 35))) hx hb hts hin12 hown hK hP 35 (by decide) (hts (.fieldLink RX12 256 "HiddenMovesModel" "fault" "I") (List.mem_cons_of_mem _ (List.mem_append_left _ (List.mem_append_left _ (List.mem_of_getElem? (i := 5) rfl))))) (fun _ h9 => h9) rfl dX12_read_51 ?_
      subst hQQ
      subst hAe
      exact W.iret (v := hz_i (z_26 35)) hx hb hr (fun t ht hW => ⟨⟨hz_i (z_26 35), (z_26 35, z_26, A_20), rfl, ⟨rfl, hw⟩, by rw [ht]; exact hP, va_K.moved hW.alike hK, hD⟩, hS.F ht⟩) hS.2.2 dX12_read_54
  · have hw := hw.2 c_17
    refine lv_aload_n hx hb dX12_read_23 rfl (lv_at hl 1 rfl) ?_
    refine lv_aload_n hx hb dX12_read_24 rfl (lv_at hl 1 rfl) ?_
    refine mw_get (v := .ref (R 8)) hx hb hts hin12 hown hK hP 8 (by decide) (hts (.fieldLink RX12 105 "HiddenMovesModel" "places" "[I") (List.mem_cons_of_mem _ (List.mem_append_left _ (List.mem_append_left _ (List.mem_of_getElem? (i := 2) rfl))))) (fun _ h9 => h9) rfl dX12_read_25 ?_
    refine lv_iload_n hx hb dX12_read_28 rfl (lv_at hl 0 rfl) ?_
    obtain ⟨h9i, hw⟩ := hw
    refine mw_ild (k := 8) (n := 4001) (i := r_14) hx hb hK hP 6 5 rfl rfl h9i (by decide) dX12_read_29 ?_
    refine mw_put (ty := .int) (v := .int (hz_i (A_16 8 (r_14.toNat)))) hx hb hts hin12 hown hK hP hD hS 6 (by decide) (hts (.fieldLink RX12 98 "HiddenMovesModel" "wrong" "I") (List.mem_cons_of_mem _ (List.mem_append_left _ (List.mem_append_left _ (List.mem_of_getElem? (i := 3) rfl))))) (fun _ h9 => h9) rfl (by decide +kernel) rfl rfl (mw_s6 R z_15 (A_16 8 (r_14.toNat))) dX12_read_30 (fun H locs hP hD hS => ?_)
    obtain ⟨z_27, hz_27⟩ : ∃ y : Nat → Int, y = lp_U z_15 6 (A_16 8 (r_14.toNat)) := ⟨_, rfl⟩
    rw [← hz_27] at hP hD
    have hw := hw z_27 hz_27
    refine lv_iconst (v := hz_i 1) hx hb dX12_read_33 (by decide +kernel) ?_
    subst hQQ
    subst hAe
    exact W.iret (v := hz_i 1) hx hb hr (fun t ht hW => ⟨⟨hz_i 1, (1, z_27, A_16), rfl, ⟨rfl, hw⟩, by rw [ht]; exact hP, va_K.moved hW.alike hK, hD⟩, hS.F ht⟩) hS.2.2 dX12_read_34

noncomputable def wp_place (z : Nat → Int) (A : Nat → Nat → Int) (Q : Int → (Nat → Int) → Prop) : Prop := ∀ z_1 : Nat → Int, z_1 = lp_U z 3 0 → Q (z_1 6) z_1
set_option maxHeartbeats 4000000 in
set_option maxRecDepth 100000 in
theorem k_place (l : Launch) (D : va_G) (sz : Nat) (om : Nat) (R : Nat → Nat) (C : Nat → ClassId) (z : Nat → Int) (A : Nat → Nat → Int) (Q : Int → (Nat → Int) → Prop) (hw : wp_place z A Q) : Met l yX12_place wsX12_place ({ frames := 0, cells := 0, slots := 0, locals := 0 } : Room) (va_Pc [.ref om] (hm_P D (mw_w om R C z A) (mw_t C) sz)) (va_Qi (S := Int × (Nat → Int) × (Nat → Nat → Int)) (fun r u => r = hz_i u.1 ∧ Q u.1 u.2.1) (fun u t => hm_B D (va_A (mw_w om R C z A) sz) (mw_w om R C u.2.1 A) (mw_t C) t) (va_A (mw_w om R C z A) sz)) 0 0 (va_A (mw_w om R C z A) sz) := by
  refine Met.ofW (cc := cX12_place) (maxL := 1) (ret := (some .int)) (by decide) rfl ?_
  intro p e s m args below meth c s₁ B hml hv
  obtain ⟨rfl, hsz, hP, hK, hD0, hE⟩ := hv
  have hx := B.exec
  have hb := B.bytes
  have hr := B.returns
  have hts := atoms_spec (ws := wsX12_place) B.pre
  have hown : s.vm.findClass RX12 = some m.cls := findClass_of_methodNamed B.named
  have hlocks := B.notSynchronized
  have hin12 : ∀ w ∈ u_ws RX12 TX12 58, w ∈ wsX12_place := fun w h => List.mem_cons_of_mem _ (List.mem_append_right _ (h))
  subst hsz
  have hD := hD0.self (sz := s.heap.size)
  generalize hAe : va_A (mw_w om R C z A) s.heap.size = Ad at hD ⊢
  have hA : ∀ q : Nat, s.heap.size ≤ q → Ad q := fun q h => by rw [← hAe]; exact Or.inr h
  have hS : va_S Ad s.heap s.heap [] := va_S.rf
  have hl := lv_entry ([.ref om]) (n := 1) (Nat.le_of_ble_eq_true rfl)
  rw [lg_entry_eq]
  generalize (lg_sl ([.ref om]) ++ List.replicate (1 - (lg_sl ([.ref om])).length) Slot.unset).toArray = ls at hl ⊢
  have hl : lv_has ls 1 [(0, .ref om)] := hl
  refine mw_Q (fun QQ hQQ => ?_)
  have hP0 := hP; have hD0 := hD; have hS0 := hS; have hl0 := hl; have hw0 := hw
  clear hP hD hS hl hw
  have hP := hP0; have hD := hD0; have hS := hS0; have hl := hl0; have hw := hw0
  obtain ⟨H, hH⟩ : ∃ H : Heap, H = s.heap := ⟨_, rfl⟩
  obtain ⟨locs, hlocs⟩ : ∃ L : List Loc, L = [] := ⟨_, rfl⟩
  rw [← hH] at hP
  have hS : va_S Ad s.heap H locs := by rw [hH, hlocs]; exact hS
  refine mw_HL hH hlocs ?_
  refine lv_aload_n hx hb dX12_place_0 rfl (lv_at hl 0 rfl) ?_
  refine lv_iconst (v := hz_i 0) hx hb dX12_place_1 (by decide +kernel) ?_
  refine mw_put (ty := .int) (v := .int (hz_i 0)) hx hb hts hin12 hown hK hP hD hS 3 (by decide) (hts (.fieldLink RX12 223 "HiddenMovesModel" "thrown" "I") (List.mem_cons_of_mem _ (List.mem_append_left _ (List.mem_of_getElem? (i := 0) rfl)))) (fun _ h9 => h9) rfl (by decide +kernel) rfl rfl (mw_s3 R z 0) dX12_place_2 (fun H locs hP hD hS => ?_)
  obtain ⟨z_1, hz_1⟩ : ∃ y : Nat → Int, y = lp_U z 3 0 := ⟨_, rfl⟩
  rw [← hz_1] at hP hD
  have hw := hw z_1 hz_1
  refine lv_aload_n hx hb dX12_place_5 rfl (lv_at hl 0 rfl) ?_
  refine mw_get (v := .int (hz_i (z_1 6))) hx hb hts hin12 hown hK hP 6 (by decide) (hts (.fieldLink RX12 98 "HiddenMovesModel" "wrong" "I") (List.mem_cons_of_mem _ (List.mem_append_left _ (List.mem_of_getElem? (i := 1) rfl)))) (fun _ h9 => h9) rfl dX12_place_6 ?_
  subst hQQ
  subst hAe
  exact W.iret (v := hz_i (z_1 6)) hx hb hr (fun t ht hW => ⟨⟨hz_i (z_1 6), (z_1 6, z_1, A), rfl, ⟨rfl, hw⟩, by rw [ht]; exact hP, va_K.moved hW.alike hK, hD⟩, hS.F ht⟩) hS.2.2 dX12_place_9

noncomputable def wp_count_84 (z : Nat → Int) (A : Nat → Nat → Int) (t0 : Int) (Q : Int → (Nat → Int) → Prop) : Prop := Q t0 z
noncomputable def wp_count (z : Nat → Int) (A : Nat → Nat → Int) (y1 : Int) (Q : Int → (Nat → Int) → Prop) : Prop := ∀ z_1 : Nat → Int, z_1 = lp_U z 3 0 → hz_rI (z_1 34) ∧ ((¬ z_1 34 = 0 → hz_rI y1 ∧ ((¬ y1 = 0 → hz_rI y1 ∧ ((¬ y1 = 1 → hz_rI y1 ∧ ((¬ y1 = 2 → hz_rI y1 ∧ ((¬ y1 = 3 → wp_count_84 z_1 A (-1)  Q) ∧ (y1 = 3 → (0 ≤ z_1 32 ∧ z_1 32 < 2) ∧ wp_count_84 z_1 A (A 16 ((z_1 32).toNat))  Q))) ∧ (y1 = 2 → (0 ≤ z_1 32 ∧ z_1 32 < 2) ∧ wp_count_84 z_1 A (A 15 ((z_1 32).toNat))  Q))) ∧ (y1 = 1 → (0 ≤ z_1 32 ∧ z_1 32 < 2) ∧ wp_count_84 z_1 A (A 14 ((z_1 32).toNat))  Q))) ∧ (y1 = 0 → (0 ≤ z_1 32 ∧ z_1 32 < 2) ∧ wp_count_84 z_1 A (A 13 ((z_1 32).toNat))  Q))) ∧ (z_1 34 = 0 → wp_count_84 z_1 A (-1)  Q))
set_option maxHeartbeats 4000000 in
set_option maxRecDepth 100000 in
theorem k_count (l : Launch) (D : va_G) (sz : Nat) (om : Nat) (R : Nat → Nat) (C : Nat → ClassId) (z : Nat → Int) (A : Nat → Nat → Int) (y1 : Int) (Q : Int → (Nat → Int) → Prop) (hw : wp_count z A y1 Q) : Met l yX12_count wsX12_count ({ frames := 0, cells := 0, slots := 0, locals := 0 } : Room) (va_Pc [.ref om, .int (hz_i y1)] (hm_P D (mw_w om R C z A) (mw_t C) sz)) (va_Qi (S := Int × (Nat → Int) × (Nat → Nat → Int)) (fun r u => r = hz_i u.1 ∧ Q u.1 u.2.1) (fun u t => hm_B D (va_A (mw_w om R C z A) sz) (mw_w om R C u.2.1 A) (mw_t C) t) (va_A (mw_w om R C z A) sz)) 0 0 (va_A (mw_w om R C z A) sz) := by
  refine Met.ofW (cc := cX12_count) (maxL := 2) (ret := (some .int)) (by decide) rfl ?_
  intro p e s m args below meth c s₁ B hml hv
  obtain ⟨rfl, hsz, hP, hK, hD0, hE⟩ := hv
  have hx := B.exec
  have hb := B.bytes
  have hr := B.returns
  have hts := atoms_spec (ws := wsX12_count) B.pre
  have hown : s.vm.findClass RX12 = some m.cls := findClass_of_methodNamed B.named
  have hlocks := B.notSynchronized
  have hin12 : ∀ w ∈ u_ws RX12 TX12 58, w ∈ wsX12_count := fun w h => List.mem_cons_of_mem _ (List.mem_append_right _ (h))
  subst hsz
  have hD := hD0.self (sz := s.heap.size)
  generalize hAe : va_A (mw_w om R C z A) s.heap.size = Ad at hD ⊢
  have hA : ∀ q : Nat, s.heap.size ≤ q → Ad q := fun q h => by rw [← hAe]; exact Or.inr h
  have hS : va_S Ad s.heap s.heap [] := va_S.rf
  have hl := lv_entry ([.ref om, .int (hz_i y1)]) (n := 2) (Nat.le_of_ble_eq_true rfl)
  rw [lg_entry_eq]
  generalize (lg_sl ([.ref om, .int (hz_i y1)]) ++ List.replicate (2 - (lg_sl ([.ref om, .int (hz_i y1)])).length) Slot.unset).toArray = ls at hl ⊢
  have hl : lv_has ls 2 [(0, .ref om), (1, .int (hz_i y1))] := hl
  refine mw_Q (fun QQ hQQ => ?_)
  have hP0 := hP; have hD0 := hD; have hS0 := hS; have hl0 := hl; have hw0 := hw
  clear hP hD hS hl hw
  have L84 : ∀ (z : Nat → Int) (t0 : Int), wp_count_84 z A t0  Q → ∀ (H : Heap) (locs : List Loc) (ls : Array Slot), va_P D vwCl (mw_w om R C z A) H → va_D Ad (mw_w om R C z A) → va_S Ad s.heap H locs → lv_has ls 2 [(0, .ref om)] → W p l e (headSpec wsX12_count ({ frames := 0, cells := 0, slots := 0, locals := 0 } : Room)).room s m (List.toArray [.ref om, .int (hz_i y1)]) below meth c H locs 0 0 QQ (F0 m 84 ls [.int (hz_i t0)]) := by
    intro z t0 hw H locs ls hP hD hS hl
    subst hQQ
    subst hAe
    exact W.iret (v := hz_i t0) hx hb hr (fun t ht hW => ⟨⟨hz_i t0, (t0, z, A), rfl, ⟨rfl, hw⟩, by rw [ht]; exact hP, va_K.moved hW.alike hK, hD⟩, hS.F ht⟩) hS.2.2 dX12_count_84
  have hP := hP0; have hD := hD0; have hS := hS0; have hl := hl0; have hw := hw0
  obtain ⟨H, hH⟩ : ∃ H : Heap, H = s.heap := ⟨_, rfl⟩
  obtain ⟨locs, hlocs⟩ : ∃ L : List Loc, L = [] := ⟨_, rfl⟩
  rw [← hH] at hP
  have hS : va_S Ad s.heap H locs := by rw [hH, hlocs]; exact hS
  refine mw_HL hH hlocs ?_
  refine lv_aload_n hx hb dX12_count_0 rfl (lv_at hl 0 rfl) ?_
  refine lv_iconst (v := hz_i 0) hx hb dX12_count_1 (by decide +kernel) ?_
  refine mw_put (ty := .int) (v := .int (hz_i 0)) hx hb hts hin12 hown hK hP hD hS 3 (by decide) (hts (.fieldLink RX12 223 "HiddenMovesModel" "thrown" "I") (List.mem_cons_of_mem _ (List.mem_append_left _ (List.mem_of_getElem? (i := 0) rfl)))) (fun _ h9 => h9) rfl (by decide +kernel) rfl rfl (mw_s3 R z 0) dX12_count_2 (fun H locs hP hD hS => ?_)
  obtain ⟨z_1, hz_1⟩ : ∃ y : Nat → Int, y = lp_U z 3 0 := ⟨_, rfl⟩
  rw [← hz_1] at hP hD
  have hw := hw z_1 hz_1
  refine lv_aload_n hx hb dX12_count_5 rfl (lv_at hl 0 rfl) ?_
  refine mw_get (v := .int (hz_i (z_1 34))) hx hb hts hin12 hown hK hP 34 (by decide) (hts (.fieldLink RX12 331 "HiddenMovesModel" "known" "Z") (List.mem_cons_of_mem _ (List.mem_append_left _ (List.mem_of_getElem? (i := 1) rfl)))) (fun _ h9 => h9) rfl dX12_count_6 ?_
  obtain ⟨h9a, hw⟩ := hw
  refine hz_if_ne (tgt := 16) hx hb dX12_count_9 (by decide) h9a (fun c_2 => ?_) (fun c_2 => ?_)
  · have hw := hw.1 c_2
    refine lv_iload_n hx hb dX12_count_16 rfl (lv_at hl 1 rfl) ?_
    obtain ⟨h9a, hw⟩ := hw
    refine hz_if_ne (tgt := 32) hx hb dX12_count_17 (by decide) h9a (fun c_3 => ?_) (fun c_3 => ?_)
    · have hw := hw.1 c_3
      refine lv_iload_n hx hb dX12_count_32 rfl (lv_at hl 1 rfl) ?_
      refine lv_iconst (v := hz_i 1) hx hb dX12_count_33 (by decide +kernel) ?_
      obtain ⟨h9a, hw⟩ := hw
      refine hz_icmp_ne (tgt := 49) hx hb dX12_count_34 (by decide) h9a ⟨by decide, by decide⟩ (fun c_4 => ?_) (fun c_4 => ?_)
      · have hw := hw.1 c_4
        refine lv_iload_n hx hb dX12_count_49 rfl (lv_at hl 1 rfl) ?_
        refine lv_iconst (v := hz_i 2) hx hb dX12_count_50 (by decide +kernel) ?_
        obtain ⟨h9a, hw⟩ := hw
        refine hz_icmp_ne (tgt := 66) hx hb dX12_count_51 (by decide) h9a ⟨by decide, by decide⟩ (fun c_5 => ?_) (fun c_5 => ?_)
        · have hw := hw.1 c_5
          refine lv_iload_n hx hb dX12_count_66 rfl (lv_at hl 1 rfl) ?_
          refine lv_iconst (v := hz_i 3) hx hb dX12_count_67 (by decide +kernel) ?_
          obtain ⟨h9a, hw⟩ := hw
          refine hz_icmp_ne (tgt := 83) hx hb dX12_count_68 (by decide) h9a ⟨by decide, by decide⟩ (fun c_6 => ?_) (fun c_6 => ?_)
          · have hw := hw.1 c_6
            refine lv_iconst (v := hz_i (-1)) hx hb dX12_count_83 (by decide +kernel) ?_
            exact L84 z_1 (-1) hw H locs ls hP hD hS (lv_sub hl [0] rfl)
          · have hw := hw.2 c_6
            refine lv_aload_n hx hb dX12_count_71 rfl (lv_at hl 0 rfl) ?_
            refine mw_get (v := .ref (R 16)) hx hb hts hin12 hown hK hP 16 (by decide) (hts (.fieldLink RX12 123 "HiddenMovesModel" "choices" "[I") (List.mem_cons_of_mem _ (List.mem_append_left _ (List.mem_of_getElem? (i := 6) rfl)))) (fun _ h9 => h9) rfl dX12_count_72 ?_
            refine lv_aload_n hx hb dX12_count_75 rfl (lv_at hl 0 rfl) ?_
            refine mw_get (v := .int (hz_i (z_1 32))) hx hb hts hin12 hown hK hP 32 (by decide) (hts (.fieldLink RX12 328 "HiddenMovesModel" "game" "I") (List.mem_cons_of_mem _ (List.mem_append_left _ (List.mem_of_getElem? (i := 3) rfl)))) (fun _ h9 => h9) rfl dX12_count_76 ?_
            obtain ⟨h9i, hw⟩ := hw
            refine mw_ild (k := 16) (n := 2) (i := z_1 32) hx hb hK hP 12 11 rfl rfl h9i (by decide) dX12_count_79 ?_
            refine lv_goto (tgt := 84) hx hb dX12_count_80 (by decide) ?_
            exact L84 z_1 (A 16 ((z_1 32).toNat)) hw H locs ls hP hD hS (lv_sub hl [0] rfl)
        · have hw := hw.2 c_5
          refine lv_aload_n hx hb dX12_count_54 rfl (lv_at hl 0 rfl) ?_
          refine mw_get (v := .ref (R 15)) hx hb hts hin12 hown hK hP 15 (by decide) (hts (.fieldLink RX12 120 "HiddenMovesModel" "draws" "[I") (List.mem_cons_of_mem _ (List.mem_append_left _ (List.mem_of_getElem? (i := 5) rfl)))) (fun _ h9 => h9) rfl dX12_count_55 ?_
          refine lv_aload_n hx hb dX12_count_58 rfl (lv_at hl 0 rfl) ?_
          refine mw_get (v := .int (hz_i (z_1 32))) hx hb hts hin12 hown hK hP 32 (by decide) (hts (.fieldLink RX12 328 "HiddenMovesModel" "game" "I") (List.mem_cons_of_mem _ (List.mem_append_left _ (List.mem_of_getElem? (i := 3) rfl)))) (fun _ h9 => h9) rfl dX12_count_59 ?_
          obtain ⟨h9i, hw⟩ := hw
          refine mw_ild (k := 15) (n := 2) (i := z_1 32) hx hb hK hP 11 10 rfl rfl h9i (by decide) dX12_count_62 ?_
          refine lv_goto (tgt := 84) hx hb dX12_count_63 (by decide) ?_
          exact L84 z_1 (A 15 ((z_1 32).toNat)) hw H locs ls hP hD hS (lv_sub hl [0] rfl)
      · have hw := hw.2 c_4
        refine lv_aload_n hx hb dX12_count_37 rfl (lv_at hl 0 rfl) ?_
        refine mw_get (v := .ref (R 14)) hx hb hts hin12 hown hK hP 14 (by decide) (hts (.fieldLink RX12 117 "HiddenMovesModel" "ends" "[I") (List.mem_cons_of_mem _ (List.mem_append_left _ (List.mem_of_getElem? (i := 4) rfl)))) (fun _ h9 => h9) rfl dX12_count_38 ?_
        refine lv_aload_n hx hb dX12_count_41 rfl (lv_at hl 0 rfl) ?_
        refine mw_get (v := .int (hz_i (z_1 32))) hx hb hts hin12 hown hK hP 32 (by decide) (hts (.fieldLink RX12 328 "HiddenMovesModel" "game" "I") (List.mem_cons_of_mem _ (List.mem_append_left _ (List.mem_of_getElem? (i := 3) rfl)))) (fun _ h9 => h9) rfl dX12_count_42 ?_
        obtain ⟨h9i, hw⟩ := hw
        refine mw_ild (k := 14) (n := 2) (i := z_1 32) hx hb hK hP 10 9 rfl rfl h9i (by decide) dX12_count_45 ?_
        refine lv_goto (tgt := 84) hx hb dX12_count_46 (by decide) ?_
        exact L84 z_1 (A 14 ((z_1 32).toNat)) hw H locs ls hP hD hS (lv_sub hl [0] rfl)
    · have hw := hw.2 c_3
      refine lv_aload_n hx hb dX12_count_20 rfl (lv_at hl 0 rfl) ?_
      refine mw_get (v := .ref (R 13)) hx hb hts hin12 hown hK hP 13 (by decide) (hts (.fieldLink RX12 114 "HiddenMovesModel" "nodes" "[I") (List.mem_cons_of_mem _ (List.mem_append_left _ (List.mem_of_getElem? (i := 2) rfl)))) (fun _ h9 => h9) rfl dX12_count_21 ?_
      refine lv_aload_n hx hb dX12_count_24 rfl (lv_at hl 0 rfl) ?_
      refine mw_get (v := .int (hz_i (z_1 32))) hx hb hts hin12 hown hK hP 32 (by decide) (hts (.fieldLink RX12 328 "HiddenMovesModel" "game" "I") (List.mem_cons_of_mem _ (List.mem_append_left _ (List.mem_of_getElem? (i := 3) rfl)))) (fun _ h9 => h9) rfl dX12_count_25 ?_
      obtain ⟨h9i, hw⟩ := hw
      refine mw_ild (k := 13) (n := 2) (i := z_1 32) hx hb hK hP 9 8 rfl rfl h9i (by decide) dX12_count_28 ?_
      refine lv_goto (tgt := 84) hx hb dX12_count_29 (by decide) ?_
      exact L84 z_1 (A 13 ((z_1 32).toNat)) hw H locs ls hP hD hS (lv_sub hl [0] rfl)
  · have hw := hw.2 c_2
    refine lv_iconst (v := hz_i (-1)) hx hb dX12_count_12 (by decide +kernel) ?_
    refine lv_goto (tgt := 84) hx hb dX12_count_13 (by decide) ?_
    exact L84 z_1 (-1) hw H locs ls hP hD hS (lv_sub hl [0] rfl)

noncomputable def wp_isPlayer_22 (z : Nat → Int) (A : Nat → Nat → Int) (t0 : Int) (Q : Int → Prop) : Prop := (t0 = 0 ∨ t0 = 1) ∧ Q t0
noncomputable def wp_isPlayer_21 (z : Nat → Int) (A : Nat → Nat → Int) (Q : Int → Prop) : Prop := wp_isPlayer_22 z A 0  Q
noncomputable def wp_isPlayer_17 (z : Nat → Int) (A : Nat → Nat → Int) (Q : Int → Prop) : Prop := wp_isPlayer_22 z A 1  Q
noncomputable def wp_isPlayer (z : Nat → Int) (A : Nat → Nat → Int) (y1 : Int) (Q : Int → Prop) : Prop := hz_rI (z 34) ∧ ((z 34 = 0 → wp_isPlayer_21 z A  Q) ∧ (¬ (z 34 = 0) → hz_rI y1 ∧ ((y1 = 1 → wp_isPlayer_17 z A  Q) ∧ (¬ (y1 = 1) → hz_rI y1 ∧ ((¬ y1 = 2 → wp_isPlayer_21 z A  Q) ∧ (y1 = 2 → wp_isPlayer_17 z A  Q))))))
set_option maxHeartbeats 4000000 in
set_option maxRecDepth 100000 in
theorem k_isPlayer (l : Launch) (D : va_G) (sz : Nat) (om : Nat) (R : Nat → Nat) (C : Nat → ClassId) (z : Nat → Int) (A : Nat → Nat → Int) (y1 : Int) (Q : Int → Prop) (hw : wp_isPlayer z A y1 Q) : Met l yX12_isPlayer wsX12_isPlayer ({ frames := 0, cells := 0, slots := 0, locals := 0 } : Room) (va_Pc [.ref om, .int (hz_i y1)] (hm_P D (mw_w om R C z A) (mw_t C) sz)) (va_Qi (S := Int × (Nat → Int) × (Nat → Nat → Int)) (fun r u => r = hz_i u.1 ∧ Q u.1) (fun u t => hm_B D (va_A (mw_w om R C z A) sz) (mw_w om R C z A) (mw_t C) t) (va_A (mw_w om R C z A) sz)) 0 0 (va_A (mw_w om R C z A) sz) := by
  refine Met.ofW (cc := cX12_isPlayer) (maxL := 2) (ret := (some .boolean)) (by decide) rfl ?_
  intro p e s m args below meth c s₁ B hml hv
  obtain ⟨rfl, hsz, hP, hK, hD0, hE⟩ := hv
  have hx := B.exec
  have hb := B.bytes
  have hr := B.returns
  have hts := atoms_spec (ws := wsX12_isPlayer) B.pre
  have hown : s.vm.findClass RX12 = some m.cls := findClass_of_methodNamed B.named
  have hlocks := B.notSynchronized
  have hin12 : ∀ w ∈ u_ws RX12 TX12 58, w ∈ wsX12_isPlayer := fun w h => List.mem_cons_of_mem _ (List.mem_append_right _ (h))
  subst hsz
  have hD := hD0.self (sz := s.heap.size)
  generalize hAe : va_A (mw_w om R C z A) s.heap.size = Ad at hD ⊢
  have hA : ∀ q : Nat, s.heap.size ≤ q → Ad q := fun q h => by rw [← hAe]; exact Or.inr h
  have hS : va_S Ad s.heap s.heap [] := va_S.rf
  have hl := lv_entry ([.ref om, .int (hz_i y1)]) (n := 2) (Nat.le_of_ble_eq_true rfl)
  rw [lg_entry_eq]
  generalize (lg_sl ([.ref om, .int (hz_i y1)]) ++ List.replicate (2 - (lg_sl ([.ref om, .int (hz_i y1)])).length) Slot.unset).toArray = ls at hl ⊢
  have hl : lv_has ls 2 [(0, .ref om), (1, .int (hz_i y1))] := hl
  refine mw_Q (fun QQ hQQ => ?_)
  have hP0 := hP; have hD0 := hD; have hS0 := hS; have hl0 := hl; have hw0 := hw
  clear hP hD hS hl hw
  have L22 : ∀ (t0 : Int), wp_isPlayer_22 z A t0  Q → ∀ (H : Heap) (locs : List Loc) (ls : Array Slot), va_P D vwCl (mw_w om R C z A) H → va_D Ad (mw_w om R C z A) → va_S Ad s.heap H locs → lv_has ls 2 [(0, .ref om)] → W p l e (headSpec wsX12_isPlayer ({ frames := 0, cells := 0, slots := 0, locals := 0 } : Room)).room s m (List.toArray [.ref om, .int (hz_i y1)]) below meth c H locs 0 0 QQ (F0 m 22 ls [.int (hz_i t0)]) := by
    intro t0 hw H locs ls hP hD hS hl
    obtain ⟨h9z, hw⟩ := hw
    subst hQQ
    subst hAe
    exact W.zret (v := hz_i t0) hx hb hr (hz_tZ h9z) (fun t ht hW => ⟨⟨hz_i t0, (t0, z, A), rfl, ⟨rfl, hw⟩, by rw [ht]; exact hP, va_K.moved hW.alike hK, hD⟩, hS.F ht⟩) hS.2.2 dX12_isPlayer_22
  have L21 : wp_isPlayer_21 z A  Q → ∀ (H : Heap) (locs : List Loc) (ls : Array Slot), va_P D vwCl (mw_w om R C z A) H → va_D Ad (mw_w om R C z A) → va_S Ad s.heap H locs → lv_has ls 2 [(0, .ref om)] → W p l e (headSpec wsX12_isPlayer ({ frames := 0, cells := 0, slots := 0, locals := 0 } : Room)).room s m (List.toArray [.ref om, .int (hz_i y1)]) below meth c H locs 0 0 QQ (F0 m 21 ls []) := by
    intro  hw H locs ls hP hD hS hl
    refine lv_iconst (v := hz_i 0) hx hb dX12_isPlayer_21 (by decide +kernel) ?_
    exact L22 0 hw H locs ls hP hD hS (lv_sub hl [0] rfl)
  have L17 : wp_isPlayer_17 z A  Q → ∀ (H : Heap) (locs : List Loc) (ls : Array Slot), va_P D vwCl (mw_w om R C z A) H → va_D Ad (mw_w om R C z A) → va_S Ad s.heap H locs → lv_has ls 2 [(0, .ref om)] → W p l e (headSpec wsX12_isPlayer ({ frames := 0, cells := 0, slots := 0, locals := 0 } : Room)).room s m (List.toArray [.ref om, .int (hz_i y1)]) below meth c H locs 0 0 QQ (F0 m 17 ls []) := by
    intro  hw H locs ls hP hD hS hl
    refine lv_iconst (v := hz_i 1) hx hb dX12_isPlayer_17 (by decide +kernel) ?_
    refine lv_goto (tgt := 22) hx hb dX12_isPlayer_18 (by decide) ?_
    exact L22 1 hw H locs ls hP hD hS (lv_sub hl [0] rfl)
  have hP := hP0; have hD := hD0; have hS := hS0; have hl := hl0; have hw := hw0
  obtain ⟨H, hH⟩ : ∃ H : Heap, H = s.heap := ⟨_, rfl⟩
  obtain ⟨locs, hlocs⟩ : ∃ L : List Loc, L = [] := ⟨_, rfl⟩
  rw [← hH] at hP
  have hS : va_S Ad s.heap H locs := by rw [hH, hlocs]; exact hS
  refine mw_HL hH hlocs ?_
  refine lv_aload_n hx hb dX12_isPlayer_0 rfl (lv_at hl 0 rfl) ?_
  refine mw_get (v := .int (hz_i (z 34))) hx hb hts hin12 hown hK hP 34 (by decide) (hts (.fieldLink RX12 331 "HiddenMovesModel" "known" "Z") (List.mem_cons_of_mem _ (List.mem_append_left _ (List.mem_of_getElem? (i := 0) rfl)))) (fun _ h9 => h9) rfl dX12_isPlayer_1 ?_
  obtain ⟨h9a, hw⟩ := hw
  refine hz_if_eq (tgt := 21) hx hb dX12_isPlayer_4 (by decide) h9a (fun c_1 => ?_) (fun c_1 => ?_)
  · have hw := hw.1 c_1
    exact L21  hw H locs ls hP hD hS (lv_sub hl [0] rfl)
  · have hw := hw.2 c_1
    refine lv_iload_n hx hb dX12_isPlayer_7 rfl (lv_at hl 1 rfl) ?_
    refine lv_iconst (v := hz_i 1) hx hb dX12_isPlayer_8 (by decide +kernel) ?_
    obtain ⟨h9a, hw⟩ := hw
    refine hz_icmp_eq (tgt := 17) hx hb dX12_isPlayer_9 (by decide) h9a ⟨by decide, by decide⟩ (fun c_2 => ?_) (fun c_2 => ?_)
    · have hw := hw.1 c_2
      exact L17  hw H locs ls hP hD hS (lv_sub hl [0] rfl)
    · have hw := hw.2 c_2
      refine lv_iload_n hx hb dX12_isPlayer_12 rfl (lv_at hl 1 rfl) ?_
      refine lv_iconst (v := hz_i 2) hx hb dX12_isPlayer_13 (by decide +kernel) ?_
      obtain ⟨h9a, hw⟩ := hw
      refine hz_icmp_ne (tgt := 21) hx hb dX12_isPlayer_14 (by decide) h9a ⟨by decide, by decide⟩ (fun c_3 => ?_) (fun c_3 => ?_)
      · have hw := hw.1 c_3
        exact L21  hw H locs ls hP hD hS (lv_sub hl [0] rfl)
      · have hw := hw.2 c_3
        exact L17  hw H locs ls hP hD hS (lv_sub hl [0] rfl)

noncomputable def wp_setsOf (z : Nat → Int) (A : Nat → Nat → Int) (y1 : Int) (Q : Int → Prop) : Prop := (0 ≤ ((2 * (z 32)) + y1) - 1 ∧ ((2 * (z 32)) + y1) - 1 < 4) ∧ Q (A 26 ((((2 * (z 32)) + y1) - 1).toNat))
set_option maxHeartbeats 4000000 in
set_option maxRecDepth 100000 in
theorem k_setsOf (l : Launch) (D : va_G) (sz : Nat) (om : Nat) (R : Nat → Nat) (C : Nat → ClassId) (z : Nat → Int) (A : Nat → Nat → Int) (y1 : Int) (Q : Int → Prop) (hw : wp_setsOf z A y1 Q) : Met l yX12_setsOf wsX12_setsOf ({ frames := 0, cells := 0, slots := 0, locals := 0 } : Room) (va_Pc [.ref om, .int (hz_i y1)] (hm_P D (mw_w om R C z A) (mw_t C) sz)) (va_Qi (S := Int × (Nat → Int) × (Nat → Nat → Int)) (fun r u => r = hz_i u.1 ∧ Q u.1) (fun u t => hm_B D (va_A (mw_w om R C z A) sz) (mw_w om R C z A) (mw_t C) t) (va_A (mw_w om R C z A) sz)) 0 0 (va_A (mw_w om R C z A) sz) := by
  refine Met.ofW (cc := cX12_setsOf) (maxL := 2) (ret := (some .int)) (by decide) rfl ?_
  intro p e s m args below meth c s₁ B hml hv
  obtain ⟨rfl, hsz, hP, hK, hD0, hE⟩ := hv
  have hx := B.exec
  have hb := B.bytes
  have hr := B.returns
  have hts := atoms_spec (ws := wsX12_setsOf) B.pre
  have hown : s.vm.findClass RX12 = some m.cls := findClass_of_methodNamed B.named
  have hlocks := B.notSynchronized
  have hin12 : ∀ w ∈ u_ws RX12 TX12 58, w ∈ wsX12_setsOf := fun w h => List.mem_cons_of_mem _ (List.mem_append_right _ (h))
  subst hsz
  have hD := hD0.self (sz := s.heap.size)
  generalize hAe : va_A (mw_w om R C z A) s.heap.size = Ad at hD ⊢
  have hA : ∀ q : Nat, s.heap.size ≤ q → Ad q := fun q h => by rw [← hAe]; exact Or.inr h
  have hS : va_S Ad s.heap s.heap [] := va_S.rf
  have hl := lv_entry ([.ref om, .int (hz_i y1)]) (n := 2) (Nat.le_of_ble_eq_true rfl)
  rw [lg_entry_eq]
  generalize (lg_sl ([.ref om, .int (hz_i y1)]) ++ List.replicate (2 - (lg_sl ([.ref om, .int (hz_i y1)])).length) Slot.unset).toArray = ls at hl ⊢
  have hl : lv_has ls 2 [(0, .ref om), (1, .int (hz_i y1))] := hl
  refine mw_Q (fun QQ hQQ => ?_)
  have hP0 := hP; have hD0 := hD; have hS0 := hS; have hl0 := hl; have hw0 := hw
  clear hP hD hS hl hw
  have hP := hP0; have hD := hD0; have hS := hS0; have hl := hl0; have hw := hw0
  obtain ⟨H, hH⟩ : ∃ H : Heap, H = s.heap := ⟨_, rfl⟩
  obtain ⟨locs, hlocs⟩ : ∃ L : List Loc, L = [] := ⟨_, rfl⟩
  rw [← hH] at hP
  have hS : va_S Ad s.heap H locs := by rw [hH, hlocs]; exact hS
  refine mw_HL hH hlocs ?_
  refine lv_aload_n hx hb dX12_setsOf_0 rfl (lv_at hl 0 rfl) ?_
  refine mw_get (v := .ref (R 26)) hx hb hts hin12 hown hK hP 26 (by decide) (hts (.fieldLink RX12 154 "HiddenMovesModel" "many" "[I") (List.mem_cons_of_mem _ (List.mem_append_left _ (List.mem_of_getElem? (i := 0) rfl)))) (fun _ h9 => h9) rfl dX12_setsOf_1 ?_
  refine lv_iconst (v := hz_i 2) hx hb dX12_setsOf_4 (by decide +kernel) ?_
  refine lv_aload_n hx hb dX12_setsOf_5 rfl (lv_at hl 0 rfl) ?_
  refine mw_get (v := .int (hz_i (z 32))) hx hb hts hin12 hown hK hP 32 (by decide) (hts (.fieldLink RX12 328 "HiddenMovesModel" "game" "I") (List.mem_cons_of_mem _ (List.mem_append_left _ (List.mem_of_getElem? (i := 1) rfl)))) (fun _ h9 => h9) rfl dX12_setsOf_6 ?_
  refine hz_imul hx hb dX12_setsOf_9 ?_
  refine lv_iload_n hx hb dX12_setsOf_10 rfl (lv_at hl 1 rfl) ?_
  refine hz_iadd hx hb dX12_setsOf_11 ?_
  refine lv_iconst (v := hz_i 1) hx hb dX12_setsOf_12 (by decide +kernel) ?_
  refine hz_isub hx hb dX12_setsOf_13 ?_
  obtain ⟨h9i, hw⟩ := hw
  refine mw_ild (k := 26) (n := 4) (i := ((2 * (z 32)) + y1) - 1) hx hb hK hP 22 21 rfl rfl h9i (by decide) dX12_setsOf_14 ?_
  subst hQQ
  subst hAe
  exact W.iret (v := hz_i (A 26 ((((2 * (z 32)) + y1) - 1).toNat))) hx hb hr (fun t ht hW => ⟨⟨hz_i (A 26 ((((2 * (z 32)) + y1) - 1).toNat)), (A 26 ((((2 * (z 32)) + y1) - 1).toNat), z, A), rfl, ⟨rfl, hw⟩, by rw [ht]; exact hP, va_K.moved hW.alike hK, hD⟩, hS.F ht⟩) hS.2.2 dX12_setsOf_15

noncomputable def wp_sets_22 (z : Nat → Int) (A : Nat → Nat → Int) (t0 : Int) (Q : Int → (Nat → Int) → Prop) : Prop := Q t0 z
noncomputable def wp_sets (z : Nat → Int) (A : Nat → Nat → Int) (y1 : Int) (Q : Int → (Nat → Int) → Prop) : Prop := ∀ z_1 : Nat → Int, z_1 = lp_U z 3 0 → wp_isPlayer z_1 A y1 (fun r_2 => hz_rI r_2 ∧ ((r_2 = 0 → wp_sets_22 z_1 A (-1)  Q) ∧ (¬ (r_2 = 0) → wp_setsOf z_1 A y1 (fun r_4 => wp_sets_22 z_1 A r_4  Q))))
set_option maxHeartbeats 4000000 in
set_option maxRecDepth 100000 in
theorem k_sets (l : Launch) (D : va_G) (sz : Nat) (om : Nat) (R : Nat → Nat) (C : Nat → ClassId) (z : Nat → Int) (A : Nat → Nat → Int) (y1 : Int) (Q : Int → (Nat → Int) → Prop) (hw : wp_sets z A y1 Q) : Met l yX12_sets wsX12_sets ({ frames := 1, cells := 0, slots := 0, locals := 21 } : Room) (va_Pc [.ref om, .int (hz_i y1)] (hm_P D (mw_w om R C z A) (mw_t C) sz)) (va_Qi (S := Int × (Nat → Int) × (Nat → Nat → Int)) (fun r u => r = hz_i u.1 ∧ Q u.1 u.2.1) (fun u t => hm_B D (va_A (mw_w om R C z A) sz) (mw_w om R C u.2.1 A) (mw_t C) t) (va_A (mw_w om R C z A) sz)) 0 0 (va_A (mw_w om R C z A) sz) := by
  refine Met.ofW (cc := cX12_sets) (maxL := 2) (ret := (some .int)) (by decide) rfl ?_
  intro p e s m args below meth c s₁ B hml hv
  obtain ⟨rfl, hsz, hP, hK, hD0, hE⟩ := hv
  have hx := B.exec
  have hb := B.bytes
  have hr := B.returns
  have hts := atoms_spec (ws := wsX12_sets) B.pre
  have hown : s.vm.findClass RX12 = some m.cls := findClass_of_methodNamed B.named
  have hlocks := B.notSynchronized
  have hin12 : ∀ w ∈ u_ws RX12 TX12 58, w ∈ wsX12_sets := fun w h => List.mem_cons_of_mem _ (List.mem_append_right _ (h))
  subst hsz
  have hD := hD0.self (sz := s.heap.size)
  generalize hAe : va_A (mw_w om R C z A) s.heap.size = Ad at hD ⊢
  have hA : ∀ q : Nat, s.heap.size ≤ q → Ad q := fun q h => by rw [← hAe]; exact Or.inr h
  have hS : va_S Ad s.heap s.heap [] := va_S.rf
  have hl := lv_entry ([.ref om, .int (hz_i y1)]) (n := 2) (Nat.le_of_ble_eq_true rfl)
  rw [lg_entry_eq]
  generalize (lg_sl ([.ref om, .int (hz_i y1)]) ++ List.replicate (2 - (lg_sl ([.ref om, .int (hz_i y1)])).length) Slot.unset).toArray = ls at hl ⊢
  have hl : lv_has ls 2 [(0, .ref om), (1, .int (hz_i y1))] := hl
  refine mw_Q (fun QQ hQQ => ?_)
  have hP0 := hP; have hD0 := hD; have hS0 := hS; have hl0 := hl; have hw0 := hw
  clear hP hD hS hl hw
  have L22 : ∀ (z : Nat → Int) (t0 : Int), wp_sets_22 z A t0  Q → ∀ (H : Heap) (locs : List Loc) (ls : Array Slot), va_P D vwCl (mw_w om R C z A) H → va_D Ad (mw_w om R C z A) → va_S Ad s.heap H locs → lv_has ls 2 [(0, .ref om)] → W p l e (headSpec wsX12_sets ({ frames := 1, cells := 0, slots := 0, locals := 21 } : Room)).room s m (List.toArray [.ref om, .int (hz_i y1)]) below meth c H locs 0 0 QQ (F0 m 22 ls [.int (hz_i t0)]) := by
    intro z t0 hw H locs ls hP hD hS hl
    subst hQQ
    subst hAe
    exact W.iret (v := hz_i t0) hx hb hr (fun t ht hW => ⟨⟨hz_i t0, (t0, z, A), rfl, ⟨rfl, hw⟩, by rw [ht]; exact hP, va_K.moved hW.alike hK, hD⟩, hS.F ht⟩) hS.2.2 dX12_sets_22
  have hP := hP0; have hD := hD0; have hS := hS0; have hl := hl0; have hw := hw0
  obtain ⟨H, hH⟩ : ∃ H : Heap, H = s.heap := ⟨_, rfl⟩
  obtain ⟨locs, hlocs⟩ : ∃ L : List Loc, L = [] := ⟨_, rfl⟩
  rw [← hH] at hP
  have hS : va_S Ad s.heap H locs := by rw [hH, hlocs]; exact hS
  refine mw_HL hH hlocs ?_
  refine lv_aload_n hx hb dX12_sets_0 rfl (lv_at hl 0 rfl) ?_
  refine lv_iconst (v := hz_i 0) hx hb dX12_sets_1 (by decide +kernel) ?_
  refine mw_put (ty := .int) (v := .int (hz_i 0)) hx hb hts hin12 hown hK hP hD hS 3 (by decide) (hts (.fieldLink RX12 223 "HiddenMovesModel" "thrown" "I") (List.mem_cons_of_mem _ (List.mem_append_left _ (List.mem_of_getElem? (i := 0) rfl)))) (fun _ h9 => h9) rfl (by decide +kernel) rfl rfl (mw_s3 R z 0) dX12_sets_2 (fun H locs hP hD hS => ?_)
  obtain ⟨z_1, hz_1⟩ : ∃ y : Nat → Int, y = lp_U z 3 0 := ⟨_, rfl⟩
  rw [← hz_1] at hP hD
  have hw := hw z_1 hz_1
  refine lv_aload_n hx hb dX12_sets_5 rfl (lv_at hl 0 rfl) ?_
  refine lv_iload_n hx hb dX12_sets_6 rfl (lv_at hl 1 rfl) ?_
  have hFc := mw_free hD hS hA
  refine va_calli (va_runV (As := [.int (hz_i y1)]) (rest := []) ⟨hx, hb, hml, hown, hts⟩ (k_isPlayer l D _ om R C z_1 A y1 _ hw) (cwV 1 hts gX12_sets_X12_isPlayer rfl rfl rfl (by decide +kernel) ⟨Nat.le_of_ble_eq_true rfl, Nat.le_of_ble_eq_true rfl⟩) ⟨hm_blind, va_recv hK hP (ci := 12) (q0 := 0) rfl rfl, hm_pre hP hK hD hE⟩ rfl rfl hl.1 rfl (lv_room (Nat.le_of_ble_eq_true rfl)) dX12_sets_7 ⟨Nat.le_of_ble_eq_true rfl, Nat.le_of_ble_eq_true rfl⟩) hS (fun q _ h => hFc q h) hFc (fun rv u t H1 locs ht hvm hw hB hz1 hk1 hS => ?_)
  obtain ⟨r_2, _, _⟩ := u
  obtain ⟨hP, hK1, hD1⟩ := hB
  rw [ht] at hP
  obtain ⟨hrv, hw⟩ := hw
  subst hrv
  have hD := hD1.weaken (fun k q _ h => hFc q.1 h)
  have hP : va_P D vwCl (mw_w om R C z_1 A) H1 := hP
  have hD : va_D Ad (mw_w om R C z_1 A) := hD
  generalize H1 = H at hP hS ⊢
  refine W.eq (g2 := F0 m 10 ls [.int (hz_i r_2)]) rfl ?_
  obtain ⟨h9a, hw⟩ := hw
  refine hz_if_eq (tgt := 21) hx hb dX12_sets_10 (by decide) h9a (fun c_3 => ?_) (fun c_3 => ?_)
  · have hw := hw.1 c_3
    refine lv_iconst (v := hz_i (-1)) hx hb dX12_sets_21 (by decide +kernel) ?_
    exact L22 z_1 (-1) hw H locs ls hP hD hS (lv_sub hl [0] rfl)
  · have hw := hw.2 c_3
    refine lv_aload_n hx hb dX12_sets_13 rfl (lv_at hl 0 rfl) ?_
    refine lv_iload_n hx hb dX12_sets_14 rfl (lv_at hl 1 rfl) ?_
    have hFc := mw_free hD hS hA
    refine va_calli (va_runV (As := [.int (hz_i y1)]) (rest := []) ⟨hx, hb, hml, hown, hts⟩ (k_setsOf l D _ om R C z_1 A y1 _ hw) (cwV 1 hts gX12_sets_X12_setsOf rfl rfl rfl (by decide +kernel) ⟨Nat.le_of_ble_eq_true rfl, Nat.le_of_ble_eq_true rfl⟩) ⟨hm_blind, va_recv hK hP (ci := 12) (q0 := 0) rfl rfl, hm_pre hP hK hD hE⟩ rfl rfl hl.1 rfl (lv_room (Nat.le_of_ble_eq_true rfl)) dX12_sets_15 ⟨Nat.le_of_ble_eq_true rfl, Nat.le_of_ble_eq_true rfl⟩) hS (fun q _ h => hFc q h) hFc (fun rv u t H1 locs ht hvm hw hB hz1 hk1 hS => ?_)
    obtain ⟨r_4, _, _⟩ := u
    obtain ⟨hP, hK1, hD1⟩ := hB
    rw [ht] at hP
    obtain ⟨hrv, hw⟩ := hw
    subst hrv
    have hD := hD1.weaken (fun k q _ h => hFc q.1 h)
    have hP : va_P D vwCl (mw_w om R C z_1 A) H1 := hP
    have hD : va_D Ad (mw_w om R C z_1 A) := hD
    generalize H1 = H at hP hS ⊢
    refine W.eq (g2 := F0 m 18 ls [.int (hz_i r_4)]) rfl ?_
    refine lv_goto (tgt := 22) hx hb dX12_sets_18 (by decide) ?_
    exact L22 z_1 r_4 hw H locs ls hP hD hS (lv_sub hl [0] rfl)

noncomputable def wp_isSet_26 (z : Nat → Int) (A : Nat → Nat → Int) (t0 : Int) (Q : Int → Prop) : Prop := (t0 = 0 ∨ t0 = 1) ∧ Q t0
noncomputable def wp_isSet_25 (z : Nat → Int) (A : Nat → Nat → Int) (Q : Int → Prop) : Prop := wp_isSet_26 z A 0  Q
noncomputable def wp_isSet (z : Nat → Int) (A : Nat → Nat → Int) (y1 : Int) (y2 : Int) (Q : Int → Prop) : Prop := wp_isPlayer z A y1 (fun r_1 => hz_rI r_1 ∧ ((r_1 = 0 → wp_isSet_25 z A  Q) ∧ (¬ (r_1 = 0) → hz_rI y2 ∧ ((y2 < 0 → wp_isSet_25 z A  Q) ∧ (¬ (y2 < 0) → wp_setsOf z A y1 (fun r_4 => hz_rI y2 ∧ hz_rI r_4 ∧ ((r_4 ≤ y2 → wp_isSet_25 z A  Q) ∧ (¬ (r_4 ≤ y2) → wp_isSet_26 z A 1  Q))))))))
set_option maxHeartbeats 4000000 in
set_option maxRecDepth 100000 in
theorem k_isSet (l : Launch) (D : va_G) (sz : Nat) (om : Nat) (R : Nat → Nat) (C : Nat → ClassId) (z : Nat → Int) (A : Nat → Nat → Int) (y1 : Int) (y2 : Int) (Q : Int → Prop) (hw : wp_isSet z A y1 y2 Q) : Met l yX12_isSet wsX12_isSet ({ frames := 1, cells := 0, slots := 0, locals := 21 } : Room) (va_Pc [.ref om, .int (hz_i y1), .int (hz_i y2)] (hm_P D (mw_w om R C z A) (mw_t C) sz)) (va_Qi (S := Int × (Nat → Int) × (Nat → Nat → Int)) (fun r u => r = hz_i u.1 ∧ Q u.1) (fun u t => hm_B D (va_A (mw_w om R C z A) sz) (mw_w om R C z A) (mw_t C) t) (va_A (mw_w om R C z A) sz)) 0 0 (va_A (mw_w om R C z A) sz) := by
  refine Met.ofW (cc := cX12_isSet) (maxL := 3) (ret := (some .boolean)) (by decide) rfl ?_
  intro p e s m args below meth c s₁ B hml hv
  obtain ⟨rfl, hsz, hP, hK, hD0, hE⟩ := hv
  have hx := B.exec
  have hb := B.bytes
  have hr := B.returns
  have hts := atoms_spec (ws := wsX12_isSet) B.pre
  have hown : s.vm.findClass RX12 = some m.cls := findClass_of_methodNamed B.named
  have hlocks := B.notSynchronized
  subst hsz
  have hD := hD0.self (sz := s.heap.size)
  generalize hAe : va_A (mw_w om R C z A) s.heap.size = Ad at hD ⊢
  have hA : ∀ q : Nat, s.heap.size ≤ q → Ad q := fun q h => by rw [← hAe]; exact Or.inr h
  have hS : va_S Ad s.heap s.heap [] := va_S.rf
  have hl := lv_entry ([.ref om, .int (hz_i y1), .int (hz_i y2)]) (n := 3) (Nat.le_of_ble_eq_true rfl)
  rw [lg_entry_eq]
  generalize (lg_sl ([.ref om, .int (hz_i y1), .int (hz_i y2)]) ++ List.replicate (3 - (lg_sl ([.ref om, .int (hz_i y1), .int (hz_i y2)])).length) Slot.unset).toArray = ls at hl ⊢
  have hl : lv_has ls 3 [(0, .ref om), (1, .int (hz_i y1)), (2, .int (hz_i y2))] := hl
  refine mw_Q (fun QQ hQQ => ?_)
  have hP0 := hP; have hD0 := hD; have hS0 := hS; have hl0 := hl; have hw0 := hw
  clear hP hD hS hl hw
  have L26 : ∀ (t0 : Int), wp_isSet_26 z A t0  Q → ∀ (H : Heap) (locs : List Loc) (ls : Array Slot), va_P D vwCl (mw_w om R C z A) H → va_D Ad (mw_w om R C z A) → va_S Ad s.heap H locs → lv_has ls 3 [(0, .ref om)] → W p l e (headSpec wsX12_isSet ({ frames := 1, cells := 0, slots := 0, locals := 21 } : Room)).room s m (List.toArray [.ref om, .int (hz_i y1), .int (hz_i y2)]) below meth c H locs 0 0 QQ (F0 m 26 ls [.int (hz_i t0)]) := by
    intro t0 hw H locs ls hP hD hS hl
    obtain ⟨h9z, hw⟩ := hw
    subst hQQ
    subst hAe
    exact W.zret (v := hz_i t0) hx hb hr (hz_tZ h9z) (fun t ht hW => ⟨⟨hz_i t0, (t0, z, A), rfl, ⟨rfl, hw⟩, by rw [ht]; exact hP, va_K.moved hW.alike hK, hD⟩, hS.F ht⟩) hS.2.2 dX12_isSet_26
  have L25 : wp_isSet_25 z A  Q → ∀ (H : Heap) (locs : List Loc) (ls : Array Slot), va_P D vwCl (mw_w om R C z A) H → va_D Ad (mw_w om R C z A) → va_S Ad s.heap H locs → lv_has ls 3 [(0, .ref om)] → W p l e (headSpec wsX12_isSet ({ frames := 1, cells := 0, slots := 0, locals := 21 } : Room)).room s m (List.toArray [.ref om, .int (hz_i y1), .int (hz_i y2)]) below meth c H locs 0 0 QQ (F0 m 25 ls []) := by
    intro  hw H locs ls hP hD hS hl
    refine lv_iconst (v := hz_i 0) hx hb dX12_isSet_25 (by decide +kernel) ?_
    exact L26 0 hw H locs ls hP hD hS (lv_sub hl [0] rfl)
  have hP := hP0; have hD := hD0; have hS := hS0; have hl := hl0; have hw := hw0
  obtain ⟨H, hH⟩ : ∃ H : Heap, H = s.heap := ⟨_, rfl⟩
  obtain ⟨locs, hlocs⟩ : ∃ L : List Loc, L = [] := ⟨_, rfl⟩
  rw [← hH] at hP
  have hS : va_S Ad s.heap H locs := by rw [hH, hlocs]; exact hS
  refine mw_HL hH hlocs ?_
  refine lv_aload_n hx hb dX12_isSet_0 rfl (lv_at hl 0 rfl) ?_
  refine lv_iload_n hx hb dX12_isSet_1 rfl (lv_at hl 1 rfl) ?_
  have hFc := mw_free hD hS hA
  refine va_calli (va_runV (As := [.int (hz_i y1)]) (rest := []) ⟨hx, hb, hml, hown, hts⟩ (k_isPlayer l D _ om R C z A y1 _ hw) (cwV 1 hts gX12_isSet_X12_isPlayer rfl rfl rfl (by decide +kernel) ⟨Nat.le_of_ble_eq_true rfl, Nat.le_of_ble_eq_true rfl⟩) ⟨hm_blind, va_recv hK hP (ci := 12) (q0 := 0) rfl rfl, hm_pre hP hK hD hE⟩ rfl rfl hl.1 rfl (lv_room (Nat.le_of_ble_eq_true rfl)) dX12_isSet_2 ⟨Nat.le_of_ble_eq_true rfl, Nat.le_of_ble_eq_true rfl⟩) hS (fun q _ h => hFc q h) hFc (fun rv u t H1 locs ht hvm hw hB hz1 hk1 hS => ?_)
  obtain ⟨r_1, _, _⟩ := u
  obtain ⟨hP, hK1, hD1⟩ := hB
  rw [ht] at hP
  obtain ⟨hrv, hw⟩ := hw
  subst hrv
  have hD := hD1.weaken (fun k q _ h => hFc q.1 h)
  have hP : va_P D vwCl (mw_w om R C z A) H1 := hP
  have hD : va_D Ad (mw_w om R C z A) := hD
  generalize H1 = H at hP hS ⊢
  refine W.eq (g2 := F0 m 5 ls [.int (hz_i r_1)]) rfl ?_
  obtain ⟨h9a, hw⟩ := hw
  refine hz_if_eq (tgt := 25) hx hb dX12_isSet_5 (by decide) h9a (fun c_2 => ?_) (fun c_2 => ?_)
  · have hw := hw.1 c_2
    exact L25  hw H locs ls hP hD hS (lv_sub hl [0] rfl)
  · have hw := hw.2 c_2
    refine lv_iload_n hx hb dX12_isSet_8 rfl (lv_at hl 2 rfl) ?_
    obtain ⟨h9a, hw⟩ := hw
    refine hz_if_lt (tgt := 25) hx hb dX12_isSet_9 (by decide) h9a (fun c_3 => ?_) (fun c_3 => ?_)
    · have hw := hw.1 c_3
      exact L25  hw H locs ls hP hD hS (lv_sub hl [0] rfl)
    · have hw := hw.2 c_3
      refine lv_iload_n hx hb dX12_isSet_12 rfl (lv_at hl 2 rfl) ?_
      refine lv_aload_n hx hb dX12_isSet_13 rfl (lv_at hl 0 rfl) ?_
      refine lv_iload_n hx hb dX12_isSet_14 rfl (lv_at hl 1 rfl) ?_
      have hFc := mw_free hD hS hA
      refine va_calli (va_runV (As := [.int (hz_i y1)]) (rest := [.int (hz_i y2)]) ⟨hx, hb, hml, hown, hts⟩ (k_setsOf l D _ om R C z A y1 _ hw) (cwV 1 hts gX12_isSet_X12_setsOf rfl rfl rfl (by decide +kernel) ⟨Nat.le_of_ble_eq_true rfl, Nat.le_of_ble_eq_true rfl⟩) ⟨hm_blind, va_recv hK hP (ci := 12) (q0 := 0) rfl rfl, hm_pre hP hK hD hE⟩ rfl rfl hl.1 rfl (lv_room (Nat.le_of_ble_eq_true rfl)) dX12_isSet_15 ⟨Nat.le_of_ble_eq_true rfl, Nat.le_of_ble_eq_true rfl⟩) hS (fun q _ h => hFc q h) hFc (fun rv u t H1 locs ht hvm hw hB hz1 hk1 hS => ?_)
      obtain ⟨r_4, _, _⟩ := u
      obtain ⟨hP, hK1, hD1⟩ := hB
      rw [ht] at hP
      obtain ⟨hrv, hw⟩ := hw
      subst hrv
      have hD := hD1.weaken (fun k q _ h => hFc q.1 h)
      have hP : va_P D vwCl (mw_w om R C z A) H1 := hP
      have hD : va_D Ad (mw_w om R C z A) := hD
      generalize H1 = H at hP hS ⊢
      refine W.eq (g2 := F0 m 18 ls [.int (hz_i r_4), .int (hz_i y2)]) rfl ?_
      obtain ⟨h9a, hw⟩ := hw
      obtain ⟨h9b, hw⟩ := hw
      refine hz_icmp_ge (tgt := 25) hx hb dX12_isSet_18 (by decide) h9a h9b (fun c_5 => ?_) (fun c_5 => ?_)
      · have hw := hw.1 c_5
        exact L25  hw H locs ls hP hD hS (lv_sub hl [0] rfl)
      · have hw := hw.2 c_5
        refine lv_iconst (v := hz_i 1) hx hb dX12_isSet_21 (by decide +kernel) ?_
        refine lv_goto (tgt := 26) hx hb dX12_isSet_22 (by decide) ?_
        exact L26 1 hw H locs ls hP hD hS (lv_sub hl [0] rfl)

noncomputable def wp_set_81 (z : Nat → Int) (A : Nat → Nat → Int) (t0 : Int) (Q : Int → (Nat → Int) → Prop) : Prop := Q t0 z
noncomputable def wp_set (z : Nat → Int) (A : Nat → Nat → Int) (y1 : Int) (y2 : Int) (y3 : Int) (Q : Int → (Nat → Int) → Prop) : Prop := ∀ z_1 : Nat → Int, z_1 = lp_U z 3 0 → ∀ x4_2 : Int, x4_2 = ((20 * (z_1 32)) + (10 * (y1 - 1))) + y2 → wp_isSet z_1 A y1 y2 (fun r_3 => hz_rI r_3 ∧ ((¬ r_3 = 0 → hz_rI y3 ∧ ((¬ y3 = 0 → hz_rI y3 ∧ ((¬ y3 = 1 → hz_rI y3 ∧ ((¬ y3 = 2 → wp_set_81 z_1 A (-1)  Q) ∧ (y3 = 2 → (0 ≤ x4_2 ∧ x4_2 < 40) ∧ wp_set_81 z_1 A (A 29 (x4_2.toNat))  Q))) ∧ (y3 = 1 → (0 ≤ x4_2 ∧ x4_2 < 40) ∧ wp_set_81 z_1 A (A 27 (x4_2.toNat))  Q))) ∧ (y3 = 0 → (0 ≤ x4_2 ∧ x4_2 < 40) ∧ wp_set_81 z_1 A (A 28 (x4_2.toNat))  Q))) ∧ (r_3 = 0 → wp_set_81 z_1 A (-1)  Q)))
set_option maxHeartbeats 4000000 in
set_option maxRecDepth 100000 in
theorem k_set (l : Launch) (D : va_G) (sz : Nat) (om : Nat) (R : Nat → Nat) (C : Nat → ClassId) (z : Nat → Int) (A : Nat → Nat → Int) (y1 : Int) (y2 : Int) (y3 : Int) (Q : Int → (Nat → Int) → Prop) (hw : wp_set z A y1 y2 y3 Q) : Met l yX12_set wsX12_set ({ frames := 2, cells := 0, slots := 0, locals := 43 } : Room) (va_Pc [.ref om, .int (hz_i y1), .int (hz_i y2), .int (hz_i y3)] (hm_P D (mw_w om R C z A) (mw_t C) sz)) (va_Qi (S := Int × (Nat → Int) × (Nat → Nat → Int)) (fun r u => r = hz_i u.1 ∧ Q u.1 u.2.1) (fun u t => hm_B D (va_A (mw_w om R C z A) sz) (mw_w om R C u.2.1 A) (mw_t C) t) (va_A (mw_w om R C z A) sz)) 0 0 (va_A (mw_w om R C z A) sz) := by
  refine Met.ofW (cc := cX12_set) (maxL := 5) (ret := (some .int)) (by decide) rfl ?_
  intro p e s m args below meth c s₁ B hml hv
  obtain ⟨rfl, hsz, hP, hK, hD0, hE⟩ := hv
  have hx := B.exec
  have hb := B.bytes
  have hr := B.returns
  have hts := atoms_spec (ws := wsX12_set) B.pre
  have hown : s.vm.findClass RX12 = some m.cls := findClass_of_methodNamed B.named
  have hlocks := B.notSynchronized
  have hin12 : ∀ w ∈ u_ws RX12 TX12 58, w ∈ wsX12_set := fun w h => List.mem_cons_of_mem _ (List.mem_append_right _ (h))
  subst hsz
  have hD := hD0.self (sz := s.heap.size)
  generalize hAe : va_A (mw_w om R C z A) s.heap.size = Ad at hD ⊢
  have hA : ∀ q : Nat, s.heap.size ≤ q → Ad q := fun q h => by rw [← hAe]; exact Or.inr h
  have hS : va_S Ad s.heap s.heap [] := va_S.rf
  have hl := lv_entry ([.ref om, .int (hz_i y1), .int (hz_i y2), .int (hz_i y3)]) (n := 5) (Nat.le_of_ble_eq_true rfl)
  rw [lg_entry_eq]
  generalize (lg_sl ([.ref om, .int (hz_i y1), .int (hz_i y2), .int (hz_i y3)]) ++ List.replicate (5 - (lg_sl ([.ref om, .int (hz_i y1), .int (hz_i y2), .int (hz_i y3)])).length) Slot.unset).toArray = ls at hl ⊢
  have hl : lv_has ls 5 [(0, .ref om), (1, .int (hz_i y1)), (2, .int (hz_i y2)), (3, .int (hz_i y3))] := hl
  refine mw_Q (fun QQ hQQ => ?_)
  have hP0 := hP; have hD0 := hD; have hS0 := hS; have hl0 := hl; have hw0 := hw
  clear hP hD hS hl hw
  have L81 : ∀ (z : Nat → Int) (t0 : Int), wp_set_81 z A t0  Q → ∀ (H : Heap) (locs : List Loc) (ls : Array Slot), va_P D vwCl (mw_w om R C z A) H → va_D Ad (mw_w om R C z A) → va_S Ad s.heap H locs → lv_has ls 5 [(0, .ref om)] → W p l e (headSpec wsX12_set ({ frames := 2, cells := 0, slots := 0, locals := 43 } : Room)).room s m (List.toArray [.ref om, .int (hz_i y1), .int (hz_i y2), .int (hz_i y3)]) below meth c H locs 0 0 QQ (F0 m 81 ls [.int (hz_i t0)]) := by
    intro z t0 hw H locs ls hP hD hS hl
    subst hQQ
    subst hAe
    exact W.iret (v := hz_i t0) hx hb hr (fun t ht hW => ⟨⟨hz_i t0, (t0, z, A), rfl, ⟨rfl, hw⟩, by rw [ht]; exact hP, va_K.moved hW.alike hK, hD⟩, hS.F ht⟩) hS.2.2 dX12_set_81
  have hP := hP0; have hD := hD0; have hS := hS0; have hl := hl0; have hw := hw0
  obtain ⟨H, hH⟩ : ∃ H : Heap, H = s.heap := ⟨_, rfl⟩
  obtain ⟨locs, hlocs⟩ : ∃ L : List Loc, L = [] := ⟨_, rfl⟩
  rw [← hH] at hP
  have hS : va_S Ad s.heap H locs := by rw [hH, hlocs]; exact hS
  refine mw_HL hH hlocs ?_
  refine lv_aload_n hx hb dX12_set_0 rfl (lv_at hl 0 rfl) ?_
  refine lv_iconst (v := hz_i 0) hx hb dX12_set_1 (by decide +kernel) ?_
  refine mw_put (ty := .int) (v := .int (hz_i 0)) hx hb hts hin12 hown hK hP hD hS 3 (by decide) (hts (.fieldLink RX12 223 "HiddenMovesModel" "thrown" "I") (List.mem_cons_of_mem _ (List.mem_append_left _ (List.mem_of_getElem? (i := 0) rfl)))) (fun _ h9 => h9) rfl (by decide +kernel) rfl rfl (mw_s3 R z 0) dX12_set_2 (fun H locs hP hD hS => ?_)
  obtain ⟨z_1, hz_1⟩ : ∃ y : Nat → Int, y = lp_U z 3 0 := ⟨_, rfl⟩
  rw [← hz_1] at hP hD
  have hw := hw z_1 hz_1
  refine lv_bipush (v := hz_i 20) hx hb dX12_set_5 (by decide +kernel) ?_
  refine lv_aload_n hx hb dX12_set_7 rfl (lv_at hl 0 rfl) ?_
  refine mw_get (v := .int (hz_i (z_1 32))) hx hb hts hin12 hown hK hP 32 (by decide) (hts (.fieldLink RX12 328 "HiddenMovesModel" "game" "I") (List.mem_cons_of_mem _ (List.mem_append_left _ (List.mem_of_getElem? (i := 1) rfl)))) (fun _ h9 => h9) rfl dX12_set_8 ?_
  refine hz_imul hx hb dX12_set_11 ?_
  refine lv_bipush (v := hz_i 10) hx hb dX12_set_12 (by decide +kernel) ?_
  refine lv_iload_n hx hb dX12_set_14 rfl (lv_at hl 1 rfl) ?_
  refine lv_iconst (v := hz_i 1) hx hb dX12_set_15 (by decide +kernel) ?_
  refine hz_isub hx hb dX12_set_16 ?_
  refine hz_imul hx hb dX12_set_17 ?_
  refine hz_iadd hx hb dX12_set_18 ?_
  refine lv_iload_n hx hb dX12_set_19 rfl (lv_at hl 2 rfl) ?_
  refine hz_iadd hx hb dX12_set_20 ?_
  refine hz_topi (fun x4_2 hx4_2 => ?_)
  have hw := hw x4_2 hx4_2
  refine lv_istore (lv' := [(4, .int (hz_i x4_2)), (0, .ref om), (1, .int (hz_i y1)), (2, .int (hz_i y2)), (3, .int (hz_i y3))]) hx hb dX12_set_21 hl (by decide) rfl (fun ls hl => ?_)
  refine lv_aload_n hx hb dX12_set_23 rfl (lv_at hl 1 rfl) ?_
  refine lv_iload_n hx hb dX12_set_24 rfl (lv_at hl 2 rfl) ?_
  refine lv_iload_n hx hb dX12_set_25 rfl (lv_at hl 3 rfl) ?_
  have hFc := mw_free hD hS hA
  refine va_calli (va_runV (As := [.int (hz_i y1), .int (hz_i y2)]) (rest := []) ⟨hx, hb, hml, hown, hts⟩ (k_isSet l D _ om R C z_1 A y1 y2 _ hw) (cwV 2 hts gX12_set_X12_isSet rfl rfl rfl (by decide +kernel) ⟨Nat.le_of_ble_eq_true rfl, Nat.le_of_ble_eq_true rfl⟩) ⟨hm_blind, va_recv hK hP (ci := 12) (q0 := 0) rfl rfl, hm_pre hP hK hD hE⟩ rfl rfl hl.1 rfl (lv_room (Nat.le_of_ble_eq_true rfl)) dX12_set_26 ⟨Nat.le_of_ble_eq_true rfl, Nat.le_of_ble_eq_true rfl⟩) hS (fun q _ h => hFc q h) hFc (fun rv u t H1 locs ht hvm hw hB hz1 hk1 hS => ?_)
  obtain ⟨r_3, _, _⟩ := u
  obtain ⟨hP, hK1, hD1⟩ := hB
  rw [ht] at hP
  obtain ⟨hrv, hw⟩ := hw
  subst hrv
  have hD := hD1.weaken (fun k q _ h => hFc q.1 h)
  have hP : va_P D vwCl (mw_w om R C z_1 A) H1 := hP
  have hD : va_D Ad (mw_w om R C z_1 A) := hD
  generalize H1 = H at hP hS ⊢
  refine W.eq (g2 := F0 m 29 ls [.int (hz_i r_3)]) rfl ?_
  obtain ⟨h9a, hw⟩ := hw
  refine hz_if_ne (tgt := 36) hx hb dX12_set_29 (by decide) h9a (fun c_4 => ?_) (fun c_4 => ?_)
  · have hw := hw.1 c_4
    refine lv_iload_n hx hb dX12_set_36 rfl (lv_at hl 4 rfl) ?_
    obtain ⟨h9a, hw⟩ := hw
    refine hz_if_ne (tgt := 50) hx hb dX12_set_37 (by decide) h9a (fun c_5 => ?_) (fun c_5 => ?_)
    · have hw := hw.1 c_5
      refine lv_iload_n hx hb dX12_set_50 rfl (lv_at hl 4 rfl) ?_
      refine lv_iconst (v := hz_i 1) hx hb dX12_set_51 (by decide +kernel) ?_
      obtain ⟨h9a, hw⟩ := hw
      refine hz_icmp_ne (tgt := 65) hx hb dX12_set_52 (by decide) h9a ⟨by decide, by decide⟩ (fun c_6 => ?_) (fun c_6 => ?_)
      · have hw := hw.1 c_6
        refine lv_iload_n hx hb dX12_set_65 rfl (lv_at hl 4 rfl) ?_
        refine lv_iconst (v := hz_i 2) hx hb dX12_set_66 (by decide +kernel) ?_
        obtain ⟨h9a, hw⟩ := hw
        refine hz_icmp_ne (tgt := 80) hx hb dX12_set_67 (by decide) h9a ⟨by decide, by decide⟩ (fun c_7 => ?_) (fun c_7 => ?_)
        · have hw := hw.1 c_7
          refine lv_iconst (v := hz_i (-1)) hx hb dX12_set_80 (by decide +kernel) ?_
          exact L81 z_1 (-1) hw H locs ls hP hD hS (lv_sub hl [1] rfl)
        · have hw := hw.2 c_7
          refine lv_aload_n hx hb dX12_set_70 rfl (lv_at hl 1 rfl) ?_
          refine mw_get (v := .ref (R 29)) hx hb hts hin12 hown hK hP 29 (by decide) (hts (.fieldLink RX12 163 "HiddenMovesModel" "earlier" "[I") (List.mem_cons_of_mem _ (List.mem_append_left _ (List.mem_of_getElem? (i := 4) rfl)))) (fun _ h9 => h9) rfl dX12_set_71 ?_
          refine lv_iload hx hb dX12_set_74 (lv_at hl 0 rfl) ?_
          obtain ⟨h9i, hw⟩ := hw
          refine mw_ild (k := 29) (n := 40) (i := x4_2) hx hb hK hP 25 24 rfl rfl h9i (by decide) dX12_set_76 ?_
          refine lv_goto (tgt := 81) hx hb dX12_set_77 (by decide) ?_
          exact L81 z_1 (A 29 (x4_2.toNat)) hw H locs ls hP hD hS (lv_sub hl [1] rfl)
      · have hw := hw.2 c_6
        refine lv_aload_n hx hb dX12_set_55 rfl (lv_at hl 1 rfl) ?_
        refine mw_get (v := .ref (R 27)) hx hb hts hin12 hown hK hP 27 (by decide) (hts (.fieldLink RX12 157 "HiddenMovesModel" "number" "[I") (List.mem_cons_of_mem _ (List.mem_append_left _ (List.mem_of_getElem? (i := 3) rfl)))) (fun _ h9 => h9) rfl dX12_set_56 ?_
        refine lv_iload hx hb dX12_set_59 (lv_at hl 0 rfl) ?_
        obtain ⟨h9i, hw⟩ := hw
        refine mw_ild (k := 27) (n := 40) (i := x4_2) hx hb hK hP 23 22 rfl rfl h9i (by decide) dX12_set_61 ?_
        refine lv_goto (tgt := 81) hx hb dX12_set_62 (by decide) ?_
        exact L81 z_1 (A 27 (x4_2.toNat)) hw H locs ls hP hD hS (lv_sub hl [1] rfl)
    · have hw := hw.2 c_5
      refine lv_aload_n hx hb dX12_set_40 rfl (lv_at hl 1 rfl) ?_
      refine mw_get (v := .ref (R 28)) hx hb hts hin12 hown hK hP 28 (by decide) (hts (.fieldLink RX12 160 "HiddenMovesModel" "moves" "[I") (List.mem_cons_of_mem _ (List.mem_append_left _ (List.mem_of_getElem? (i := 2) rfl)))) (fun _ h9 => h9) rfl dX12_set_41 ?_
      refine lv_iload hx hb dX12_set_44 (lv_at hl 0 rfl) ?_
      obtain ⟨h9i, hw⟩ := hw
      refine mw_ild (k := 28) (n := 40) (i := x4_2) hx hb hK hP 24 23 rfl rfl h9i (by decide) dX12_set_46 ?_
      refine lv_goto (tgt := 81) hx hb dX12_set_47 (by decide) ?_
      exact L81 z_1 (A 28 (x4_2.toNat)) hw H locs ls hP hD hS (lv_sub hl [1] rfl)
  · have hw := hw.2 c_4
    refine lv_iconst (v := hz_i (-1)) hx hb dX12_set_32 (by decide +kernel) ?_
    refine lv_goto (tgt := 81) hx hb dX12_set_33 (by decide) ?_
    exact L81 z_1 (-1) hw H locs ls hP hD hS (lv_sub hl [1] rfl)

noncomputable def wp_plans_28 (z : Nat → Int) (A : Nat → Nat → Int) (t0 : Int) (Q : Int → (Nat → Int) → Prop) : Prop := Q t0 z
noncomputable def wp_plans (z : Nat → Int) (A : Nat → Nat → Int) (y1 : Int) (Q : Int → (Nat → Int) → Prop) : Prop := ∀ z_1 : Nat → Int, z_1 = lp_U z 3 0 → wp_isPlayer z_1 A y1 (fun r_2 => hz_rI r_2 ∧ ((r_2 = 0 → wp_plans_28 z_1 A (-1)  Q) ∧ (¬ (r_2 = 0) → wp_plansOf z_1 A (z_1 32) (y1 - 1) (fun r_4 => wp_plans_28 z_1 A r_4  Q))))
set_option maxHeartbeats 4000000 in
set_option maxRecDepth 100000 in
theorem k_plans (l : Launch) (D : va_G) (sz : Nat) (om : Nat) (R : Nat → Nat) (C : Nat → ClassId) (z : Nat → Int) (A : Nat → Nat → Int) (y1 : Int) (Q : Int → (Nat → Int) → Prop) (hw : wp_plans z A y1 Q) : Met l yX12_plans wsX12_plans ({ frames := 1, cells := 0, slots := 0, locals := 24 } : Room) (va_Pc [.ref om, .int (hz_i y1)] (hm_P D (mw_w om R C z A) (mw_t C) sz)) (va_Qi (S := Int × (Nat → Int) × (Nat → Nat → Int)) (fun r u => r = hz_i u.1 ∧ Q u.1 u.2.1) (fun u t => hm_B D (va_A (mw_w om R C z A) sz) (mw_w om R C u.2.1 A) (mw_t C) t) (va_A (mw_w om R C z A) sz)) 0 0 (va_A (mw_w om R C z A) sz) := by
  refine Met.ofW (cc := cX12_plans) (maxL := 2) (ret := (some .int)) (by decide) rfl ?_
  intro p e s m args below meth c s₁ B hml hv
  obtain ⟨rfl, hsz, hP, hK, hD0, hE⟩ := hv
  have hx := B.exec
  have hb := B.bytes
  have hr := B.returns
  have hts := atoms_spec (ws := wsX12_plans) B.pre
  have hown : s.vm.findClass RX12 = some m.cls := findClass_of_methodNamed B.named
  have hlocks := B.notSynchronized
  have hin12 : ∀ w ∈ u_ws RX12 TX12 58, w ∈ wsX12_plans := fun w h => List.mem_cons_of_mem _ (List.mem_append_right _ (h))
  subst hsz
  have hD := hD0.self (sz := s.heap.size)
  generalize hAe : va_A (mw_w om R C z A) s.heap.size = Ad at hD ⊢
  have hA : ∀ q : Nat, s.heap.size ≤ q → Ad q := fun q h => by rw [← hAe]; exact Or.inr h
  have hS : va_S Ad s.heap s.heap [] := va_S.rf
  have hl := lv_entry ([.ref om, .int (hz_i y1)]) (n := 2) (Nat.le_of_ble_eq_true rfl)
  rw [lg_entry_eq]
  generalize (lg_sl ([.ref om, .int (hz_i y1)]) ++ List.replicate (2 - (lg_sl ([.ref om, .int (hz_i y1)])).length) Slot.unset).toArray = ls at hl ⊢
  have hl : lv_has ls 2 [(0, .ref om), (1, .int (hz_i y1))] := hl
  refine mw_Q (fun QQ hQQ => ?_)
  have hP0 := hP; have hD0 := hD; have hS0 := hS; have hl0 := hl; have hw0 := hw
  clear hP hD hS hl hw
  have L28 : ∀ (z : Nat → Int) (t0 : Int), wp_plans_28 z A t0  Q → ∀ (H : Heap) (locs : List Loc) (ls : Array Slot), va_P D vwCl (mw_w om R C z A) H → va_D Ad (mw_w om R C z A) → va_S Ad s.heap H locs → lv_has ls 2 [(0, .ref om)] → W p l e (headSpec wsX12_plans ({ frames := 1, cells := 0, slots := 0, locals := 24 } : Room)).room s m (List.toArray [.ref om, .int (hz_i y1)]) below meth c H locs 0 0 QQ (F0 m 28 ls [.int (hz_i t0)]) := by
    intro z t0 hw H locs ls hP hD hS hl
    subst hQQ
    subst hAe
    exact W.iret (v := hz_i t0) hx hb hr (fun t ht hW => ⟨⟨hz_i t0, (t0, z, A), rfl, ⟨rfl, hw⟩, by rw [ht]; exact hP, va_K.moved hW.alike hK, hD⟩, hS.F ht⟩) hS.2.2 dX12_plans_28
  have hP := hP0; have hD := hD0; have hS := hS0; have hl := hl0; have hw := hw0
  obtain ⟨H, hH⟩ : ∃ H : Heap, H = s.heap := ⟨_, rfl⟩
  obtain ⟨locs, hlocs⟩ : ∃ L : List Loc, L = [] := ⟨_, rfl⟩
  rw [← hH] at hP
  have hS : va_S Ad s.heap H locs := by rw [hH, hlocs]; exact hS
  refine mw_HL hH hlocs ?_
  refine lv_aload_n hx hb dX12_plans_0 rfl (lv_at hl 0 rfl) ?_
  refine lv_iconst (v := hz_i 0) hx hb dX12_plans_1 (by decide +kernel) ?_
  refine mw_put (ty := .int) (v := .int (hz_i 0)) hx hb hts hin12 hown hK hP hD hS 3 (by decide) (hts (.fieldLink RX12 223 "HiddenMovesModel" "thrown" "I") (List.mem_cons_of_mem _ (List.mem_append_left _ (List.mem_of_getElem? (i := 0) rfl)))) (fun _ h9 => h9) rfl (by decide +kernel) rfl rfl (mw_s3 R z 0) dX12_plans_2 (fun H locs hP hD hS => ?_)
  obtain ⟨z_1, hz_1⟩ : ∃ y : Nat → Int, y = lp_U z 3 0 := ⟨_, rfl⟩
  rw [← hz_1] at hP hD
  have hw := hw z_1 hz_1
  refine lv_aload_n hx hb dX12_plans_5 rfl (lv_at hl 0 rfl) ?_
  refine lv_iload_n hx hb dX12_plans_6 rfl (lv_at hl 1 rfl) ?_
  have hFc := mw_free hD hS hA
  refine va_calli (va_runV (As := [.int (hz_i y1)]) (rest := []) ⟨hx, hb, hml, hown, hts⟩ (k_isPlayer l D _ om R C z_1 A y1 _ hw) (cwV 1 hts gX12_plans_X12_isPlayer rfl rfl rfl (by decide +kernel) ⟨Nat.le_of_ble_eq_true rfl, Nat.le_of_ble_eq_true rfl⟩) ⟨hm_blind, va_recv hK hP (ci := 12) (q0 := 0) rfl rfl, hm_pre hP hK hD hE⟩ rfl rfl hl.1 rfl (lv_room (Nat.le_of_ble_eq_true rfl)) dX12_plans_7 ⟨Nat.le_of_ble_eq_true rfl, Nat.le_of_ble_eq_true rfl⟩) hS (fun q _ h => hFc q h) hFc (fun rv u t H1 locs ht hvm hw hB hz1 hk1 hS => ?_)
  obtain ⟨r_2, _, _⟩ := u
  obtain ⟨hP, hK1, hD1⟩ := hB
  rw [ht] at hP
  obtain ⟨hrv, hw⟩ := hw
  subst hrv
  have hD := hD1.weaken (fun k q _ h => hFc q.1 h)
  have hP : va_P D vwCl (mw_w om R C z_1 A) H1 := hP
  have hD : va_D Ad (mw_w om R C z_1 A) := hD
  generalize H1 = H at hP hS ⊢
  refine W.eq (g2 := F0 m 10 ls [.int (hz_i r_2)]) rfl ?_
  obtain ⟨h9a, hw⟩ := hw
  refine hz_if_eq (tgt := 27) hx hb dX12_plans_10 (by decide) h9a (fun c_3 => ?_) (fun c_3 => ?_)
  · have hw := hw.1 c_3
    refine lv_iconst (v := hz_i (-1)) hx hb dX12_plans_27 (by decide +kernel) ?_
    exact L28 z_1 (-1) hw H locs ls hP hD hS (lv_sub hl [0] rfl)
  · have hw := hw.2 c_3
    refine lv_aload_n hx hb dX12_plans_13 rfl (lv_at hl 0 rfl) ?_
    refine lv_aload_n hx hb dX12_plans_14 rfl (lv_at hl 0 rfl) ?_
    refine mw_get (v := .int (hz_i (z_1 32))) hx hb hts hin12 hown hK hP 32 (by decide) (hts (.fieldLink RX12 328 "HiddenMovesModel" "game" "I") (List.mem_cons_of_mem _ (List.mem_append_left _ (List.mem_of_getElem? (i := 1) rfl)))) (fun _ h9 => h9) rfl dX12_plans_15 ?_
    refine lv_iload_n hx hb dX12_plans_18 rfl (lv_at hl 1 rfl) ?_
    refine lv_iconst (v := hz_i 1) hx hb dX12_plans_19 (by decide +kernel) ?_
    refine hz_isub hx hb dX12_plans_20 ?_
    have hFc := mw_free hD hS hA
    refine va_calli (va_runV (As := [.int (hz_i (z_1 32)), .int (hz_i (y1 - 1))]) (rest := []) ⟨hx, hb, hml, hown, hts⟩ (k_plansOf l D _ om R C z_1 A (z_1 32) (y1 - 1) _ hw) (cwV 2 hts gX12_plans_X12_plansOf rfl rfl rfl (by decide +kernel) ⟨Nat.le_of_ble_eq_true rfl, Nat.le_of_ble_eq_true rfl⟩) ⟨hm_blind, va_recv hK hP (ci := 12) (q0 := 0) rfl rfl, hm_pre hP hK hD hE⟩ rfl rfl hl.1 rfl (lv_room (Nat.le_of_ble_eq_true rfl)) dX12_plans_21 ⟨Nat.le_of_ble_eq_true rfl, Nat.le_of_ble_eq_true rfl⟩) hS (fun q _ h => hFc q h) hFc (fun rv u t H1 locs ht hvm hw hB hz1 hk1 hS => ?_)
    obtain ⟨r_4, _, _⟩ := u
    obtain ⟨hP, hK1, hD1⟩ := hB
    rw [ht] at hP
    obtain ⟨hrv, hw⟩ := hw
    subst hrv
    have hD := hD1.weaken (fun k q _ h => hFc q.1 h)
    have hP : va_P D vwCl (mw_w om R C z_1 A) H1 := hP
    have hD : va_D Ad (mw_w om R C z_1 A) := hD
    generalize H1 = H at hP hS ⊢
    refine W.eq (g2 := F0 m 24 ls [.int (hz_i r_4)]) rfl ?_
    refine lv_goto (tgt := 28) hx hb dX12_plans_24 (by decide) ?_
    exact L28 z_1 r_4 hw H locs ls hP hD hS (lv_sub hl [0] rfl)

noncomputable def wp_movesOf (z : Nat → Int) (A : Nat → Nat → Int) (y1 : Int) (Q : Int → Prop) : Prop := (0 ≤ (20 * (z 32)) + y1 ∧ (20 * (z 32)) + y1 < 40) ∧ Q (A 28 (((20 * (z 32)) + y1).toNat))
set_option maxHeartbeats 4000000 in
set_option maxRecDepth 100000 in
theorem k_movesOf (l : Launch) (D : va_G) (sz : Nat) (om : Nat) (R : Nat → Nat) (C : Nat → ClassId) (z : Nat → Int) (A : Nat → Nat → Int) (y1 : Int) (Q : Int → Prop) (hw : wp_movesOf z A y1 Q) : Met l yX12_movesOf wsX12_movesOf ({ frames := 0, cells := 0, slots := 0, locals := 0 } : Room) (va_Pc [.ref om, .int (hz_i y1)] (hm_P D (mw_w om R C z A) (mw_t C) sz)) (va_Qi (S := Int × (Nat → Int) × (Nat → Nat → Int)) (fun r u => r = hz_i u.1 ∧ Q u.1) (fun u t => hm_B D (va_A (mw_w om R C z A) sz) (mw_w om R C z A) (mw_t C) t) (va_A (mw_w om R C z A) sz)) 0 0 (va_A (mw_w om R C z A) sz) := by
  refine Met.ofW (cc := cX12_movesOf) (maxL := 2) (ret := (some .int)) (by decide) rfl ?_
  intro p e s m args below meth c s₁ B hml hv
  obtain ⟨rfl, hsz, hP, hK, hD0, hE⟩ := hv
  have hx := B.exec
  have hb := B.bytes
  have hr := B.returns
  have hts := atoms_spec (ws := wsX12_movesOf) B.pre
  have hown : s.vm.findClass RX12 = some m.cls := findClass_of_methodNamed B.named
  have hlocks := B.notSynchronized
  have hin12 : ∀ w ∈ u_ws RX12 TX12 58, w ∈ wsX12_movesOf := fun w h => List.mem_cons_of_mem _ (List.mem_append_right _ (h))
  subst hsz
  have hD := hD0.self (sz := s.heap.size)
  generalize hAe : va_A (mw_w om R C z A) s.heap.size = Ad at hD ⊢
  have hA : ∀ q : Nat, s.heap.size ≤ q → Ad q := fun q h => by rw [← hAe]; exact Or.inr h
  have hS : va_S Ad s.heap s.heap [] := va_S.rf
  have hl := lv_entry ([.ref om, .int (hz_i y1)]) (n := 2) (Nat.le_of_ble_eq_true rfl)
  rw [lg_entry_eq]
  generalize (lg_sl ([.ref om, .int (hz_i y1)]) ++ List.replicate (2 - (lg_sl ([.ref om, .int (hz_i y1)])).length) Slot.unset).toArray = ls at hl ⊢
  have hl : lv_has ls 2 [(0, .ref om), (1, .int (hz_i y1))] := hl
  refine mw_Q (fun QQ hQQ => ?_)
  have hP0 := hP; have hD0 := hD; have hS0 := hS; have hl0 := hl; have hw0 := hw
  clear hP hD hS hl hw
  have hP := hP0; have hD := hD0; have hS := hS0; have hl := hl0; have hw := hw0
  obtain ⟨H, hH⟩ : ∃ H : Heap, H = s.heap := ⟨_, rfl⟩
  obtain ⟨locs, hlocs⟩ : ∃ L : List Loc, L = [] := ⟨_, rfl⟩
  rw [← hH] at hP
  have hS : va_S Ad s.heap H locs := by rw [hH, hlocs]; exact hS
  refine mw_HL hH hlocs ?_
  refine lv_aload_n hx hb dX12_movesOf_0 rfl (lv_at hl 0 rfl) ?_
  refine mw_get (v := .ref (R 28)) hx hb hts hin12 hown hK hP 28 (by decide) (hts (.fieldLink RX12 160 "HiddenMovesModel" "moves" "[I") (List.mem_cons_of_mem _ (List.mem_append_left _ (List.mem_of_getElem? (i := 0) rfl)))) (fun _ h9 => h9) rfl dX12_movesOf_1 ?_
  refine lv_bipush (v := hz_i 20) hx hb dX12_movesOf_4 (by decide +kernel) ?_
  refine lv_aload_n hx hb dX12_movesOf_6 rfl (lv_at hl 0 rfl) ?_
  refine mw_get (v := .int (hz_i (z 32))) hx hb hts hin12 hown hK hP 32 (by decide) (hts (.fieldLink RX12 328 "HiddenMovesModel" "game" "I") (List.mem_cons_of_mem _ (List.mem_append_left _ (List.mem_of_getElem? (i := 1) rfl)))) (fun _ h9 => h9) rfl dX12_movesOf_7 ?_
  refine hz_imul hx hb dX12_movesOf_10 ?_
  refine lv_iload_n hx hb dX12_movesOf_11 rfl (lv_at hl 1 rfl) ?_
  refine hz_iadd hx hb dX12_movesOf_12 ?_
  obtain ⟨h9i, hw⟩ := hw
  refine mw_ild (k := 28) (n := 40) (i := (20 * (z 32)) + y1) hx hb hK hP 24 23 rfl rfl h9i (by decide) dX12_movesOf_13 ?_
  subst hQQ
  subst hAe
  exact W.iret (v := hz_i (A 28 (((20 * (z 32)) + y1).toNat))) hx hb hr (fun t ht hW => ⟨⟨hz_i (A 28 (((20 * (z 32)) + y1).toNat)), (A 28 (((20 * (z 32)) + y1).toNat), z, A), rfl, ⟨rfl, hw⟩, by rw [ht]; exact hP, va_K.moved hW.alike hK, hD⟩, hS.F ht⟩) hS.2.2 dX12_movesOf_14
