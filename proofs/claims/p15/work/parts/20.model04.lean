noncomputable def wp_recall_236 (z : Nat → Int) (A : Nat → Nat → Int) (Q : (Nat → Int) → (Nat → Nat → Int) → Prop) : Prop := Q z A
noncomputable def wp_recall_230 (z : Nat → Int) (A : Nat → Nat → Int) (y2 : Int) (Q : (Nat → Int) → (Nat → Nat → Int) → Prop) : Prop := wp_stop z A 4 y2 (fun z_2 => wp_recall_236 z_2 A  Q)
noncomputable def wp_recall_192 (z : Nat → Int) (A : Nat → Nat → Int) (y1 : Int) (y2 : Int) (x3 : Int) (x4 : Int) (x5 : Int) (x6 : Int) (x7 : Int) (P35 : (Nat → Nat → Int) → Int → Int → Int → Prop) (Q : (Nat → Int) → (Nat → Nat → Int) → Prop) : Prop := ∀ x7_3 : Int, x7_3 = x7 + 1 → P35 A x5 x6 x7_3
noncomputable def wp_recall_189 (z : Nat → Int) (A : Nat → Nat → Int) (y1 : Int) (y2 : Int) (x3 : Int) (x4 : Int) (x5 : Int) (x6 : Int) (x7 : Int) (P35 : (Nat → Nat → Int) → Int → Int → Int → Prop) (Q : (Nat → Int) → (Nat → Nat → Int) → Prop) : Prop := ∀ x5_4 : Int, x5_4 = x5 + 1 → wp_recall_192 z A y1 y2 x3 x4 x5_4 x6 x7 P35 Q
noncomputable def wp_recall_187 (z : Nat → Int) (A : Nat → Nat → Int) (y1 : Int) (y2 : Int) (x3 : Int) (x4 : Int) (x5 : Int) (x7 : Int) (t0 : Int) (P35 : (Nat → Nat → Int) → Int → Int → Int → Prop) (Q : (Nat → Int) → (Nat → Nat → Int) → Prop) : Prop := wp_recall_189 z A y1 y2 x3 x4 x5 t0 x7 P35 Q
noncomputable def wp_recall_186 (z : Nat → Int) (A : Nat → Nat → Int) (y1 : Int) (y2 : Int) (x3 : Int) (x4 : Int) (x5 : Int) (x7 : Int) (P35 : (Nat → Nat → Int) → Int → Int → Int → Prop) (Q : (Nat → Int) → (Nat → Nat → Int) → Prop) : Prop := wp_recall_187 z A y1 y2 x3 x4 x5 x7 0 P35 Q
noncomputable def wp_recall_35 (z : Nat → Int) (A : Nat → Nat → Int) (y1 : Int) (y2 : Int) (x3 : Int) (x4 : Int) (x5 : Int) (x6 : Int) (x7 : Int) (Q : (Nat → Int) → (Nat → Nat → Int) → Prop) : Prop := ∀ P35 : (Nat → Nat → Int) → Int → Int → Int → Prop, (∀ (A : Nat → Nat → Int) (x5 : Int) (x6 : Int) (x7 : Int), hz_rI x7 ∧ hz_rI (z 45) ∧ ((z 45 ≤ x7 → hz_rI x4 ∧ ((x4 = 0 → hz_rI x6 ∧ ((x6 = 0 → wp_recall_230 z A y2  Q) ∧ (¬ (x6 = 0) → (0 ≤ x3 ∧ x3 < 40) ∧ hz_rI x5 ∧ hz_rI (A 29 (x3.toNat)) ∧ ((x5 = A 29 (x3.toNat) → wp_recall_236 z A  Q) ∧ (¬ (x5 = A 29 (x3.toNat)) → wp_recall_230 z A y2  Q))))) ∧ (¬ (x4 = 0) → (0 ≤ x3 ∧ x3 < 40) ∧ ∀ A_9 : Nat → Nat → Int, A_9 = hz_s A 29 x3 x5 → wp_recall_236 z A_9  Q))) ∧ (¬ (z 45 ≤ x7) → (0 ≤ x7 ∧ x7 < 24) ∧ hz_rI (A 38 (x7.toNat)) ∧ ((A 38 (x7.toNat) = 63 → wp_recall_192 z A y1 y2 x3 x4 x5 x6 x7 P35 Q) ∧ (¬ (A 38 (x7.toNat) = 63) → (0 ≤ x7 ∧ x7 < 24) ∧ hz_rI (A 39 (x7.toNat)) ∧ hz_rI y1 ∧ hz_rI ((A 39 (x7.toNat)).tdiv 10) ∧ hz_rI (y1.tdiv 10) ∧ (((A 39 (x7.toNat)).tdiv 10 = y1.tdiv 10 → hz_rI x4 ∧ ((x4 = 0 → hz_rI x6 ∧ ((x6 = 0 → wp_recall_186 z A y1 y2 x3 x4 x5 x7 P35 Q) ∧ (¬ (x6 = 0) → (0 ≤ x3 ∧ x3 < 40) ∧ hz_rI x5 ∧ hz_rI (A 29 (x3.toNat)) ∧ ((A 29 (x3.toNat) ≤ x5 → wp_recall_186 z A y1 y2 x3 x4 x5 x7 P35 Q) ∧ (¬ (A 29 (x3.toNat) ≤ x5) → (0 ≤ (20 * x3) + x5 ∧ (20 * x3) + x5 < 800) ∧ (0 ≤ x7 ∧ x7 < 24) ∧ hz_rI (A 30 (((20 * x3) + x5).toNat)) ∧ hz_rI (A 39 (x7.toNat)) ∧ ((¬ A 30 (((20 * x3) + x5).toNat) = A 39 (x7.toNat) → wp_recall_186 z A y1 y2 x3 x4 x5 x7 P35 Q) ∧ (A 30 (((20 * x3) + x5).toNat) = A 39 (x7.toNat) → (0 ≤ (20 * x3) + x5 ∧ (20 * x3) + x5 < 800) ∧ (0 ≤ x7 ∧ x7 < 24) ∧ hz_rI (A 31 (((20 * x3) + x5).toNat)) ∧ hz_rI (A 40 (x7.toNat)) ∧ ((¬ A 31 (((20 * x3) + x5).toNat) = A 40 (x7.toNat) → wp_recall_186 z A y1 y2 x3 x4 x5 x7 P35 Q) ∧ (A 31 (((20 * x3) + x5).toNat) = A 40 (x7.toNat) → wp_recall_187 z A y1 y2 x3 x4 x5 x7 1 P35 Q))))))))) ∧ (¬ (x4 = 0) → (0 ≤ x7 ∧ x7 < 24) ∧ (0 ≤ (20 * x3) + x5 ∧ (20 * x3) + x5 < 800) ∧ ∀ A_17 : Nat → Nat → Int, A_17 = hz_s A 30 ((20 * x3) + x5) (A 39 (x7.toNat)) → (0 ≤ x7 ∧ x7 < 24) ∧ (0 ≤ (20 * x3) + x5 ∧ (20 * x3) + x5 < 800) ∧ ∀ A_18 : Nat → Nat → Int, A_18 = hz_s A_17 31 ((20 * x3) + x5) (A_17 40 (x7.toNat)) → wp_recall_189 z A_18 y1 y2 x3 x4 x5 x6 x7 P35 Q))) ∧ (¬ ((A 39 (x7.toNat)).tdiv 10 = y1.tdiv 10) → wp_recall_192 z A y1 y2 x3 x4 x5 x6 x7 P35 Q)))))) → P35 A x5 x6 x7) → P35 A x5 x6 x7
noncomputable def wp_recall_24 (z : Nat → Int) (A : Nat → Nat → Int) (y1 : Int) (y2 : Int) (x3 : Int) (t0 : Int) (Q : (Nat → Int) → (Nat → Nat → Int) → Prop) : Prop := wp_recall_35 z A y1 y2 x3 t0 0 1 0  Q
noncomputable def wp_recall (z : Nat → Int) (A : Nat → Nat → Int) (y1 : Int) (y2 : Int) (Q : (Nat → Int) → (Nat → Nat → Int) → Prop) : Prop := ∀ x3_19 : Int, x3_19 = (20 * (z 33)) + y1 → (0 ≤ x3_19 ∧ x3_19 < 40) ∧ hz_rI (A 29 (x3_19.toNat)) ∧ ((0 ≤ A 29 (x3_19.toNat) → wp_recall_24 z A y1 y2 x3_19 0  Q) ∧ (¬ (0 ≤ A 29 (x3_19.toNat)) → wp_recall_24 z A y1 y2 x3_19 1  Q))
set_option maxHeartbeats 4000000 in
set_option maxRecDepth 100000 in
theorem k_recall (l : Launch) (D : va_G) (sz : Nat) (om : Nat) (R : Nat → Nat) (C : Nat → ClassId) (z : Nat → Int) (A : Nat → Nat → Int) (y1 : Int) (y2 : Int) (Q : (Nat → Int) → (Nat → Nat → Int) → Prop) (hw : wp_recall z A y1 y2 Q) : Met l yX12_recall wsX12_recall ({ frames := 1, cells := 0, slots := 0, locals := 22 } : Room) (va_Pc [.ref om, .int (hz_i y1), .int (hz_i y2)] (hm_P D (mw_w om R C z A) (mw_t C) sz)) (va_Qv (S := Int × (Nat → Int) × (Nat → Nat → Int)) (fun u => Q u.2.1 u.2.2) (fun u t => hm_B D (va_A (mw_w om R C z A) sz) (mw_w om R C u.2.1 u.2.2) (mw_t C) t) (va_A (mw_w om R C z A) sz)) 0 0 (va_A (mw_w om R C z A) sz) := by
  refine Met.ofW (cc := cX12_recall) (maxL := 8) (ret := none) (by decide) rfl ?_
  intro p e s m args below meth c s₁ B hml hv
  obtain ⟨rfl, hsz, hP, hK, hD0, hE⟩ := hv
  have hx := B.exec
  have hb := B.bytes
  have hr := B.returns
  have hts := atoms_spec (ws := wsX12_recall) B.pre
  have hown : s.vm.findClass RX12 = some m.cls := findClass_of_methodNamed B.named
  have hlocks := B.notSynchronized
  have hin12 : ∀ w ∈ u_ws RX12 TX12 58, w ∈ wsX12_recall := fun w h => List.mem_cons_of_mem _ (List.mem_append_right _ (h))
  subst hsz
  have hD := hD0.self (sz := s.heap.size)
  generalize hAe : va_A (mw_w om R C z A) s.heap.size = Ad at hD ⊢
  have hA : ∀ q : Nat, s.heap.size ≤ q → Ad q := fun q h => by rw [← hAe]; exact Or.inr h
  have hS : va_S Ad s.heap s.heap [] := va_S.rf
  have hl := lv_entry ([.ref om, .int (hz_i y1), .int (hz_i y2)]) (n := 8) (Nat.le_of_ble_eq_true rfl)
  rw [lg_entry_eq]
  generalize (lg_sl ([.ref om, .int (hz_i y1), .int (hz_i y2)]) ++ List.replicate (8 - (lg_sl ([.ref om, .int (hz_i y1), .int (hz_i y2)])).length) Slot.unset).toArray = ls at hl ⊢
  have hl : lv_has ls 8 [(0, .ref om), (1, .int (hz_i y1)), (2, .int (hz_i y2))] := hl
  refine mw_Q (fun QQ hQQ => ?_)
  have hP0 := hP; have hD0 := hD; have hS0 := hS; have hl0 := hl; have hw0 := hw
  clear hP hD hS hl hw
  have L236 : ∀ (z : Nat → Int) (A : Nat → Nat → Int), wp_recall_236 z A  Q → ∀ (H : Heap) (locs : List Loc) (ls : Array Slot), va_P D vwCl (mw_w om R C z A) H → va_D Ad (mw_w om R C z A) → va_S Ad s.heap H locs → lv_has ls 8 [(0, .ref om)] → W p l e (headSpec wsX12_recall ({ frames := 1, cells := 0, slots := 0, locals := 22 } : Room)).room s m (List.toArray [.ref om, .int (hz_i y1), .int (hz_i y2)]) below meth c H locs 0 0 QQ (F0 m 236 ls []) := by
    intro z A hw H locs ls hP hD hS hl
    subst hQQ
    subst hAe
    exact W.vret hx hb hr (fun t ht hW => ⟨⟨(0, z, A), rfl, hw, by rw [ht]; exact hP, va_K.moved hW.alike hK, hD⟩, hS.F ht⟩) hS.2.2 dX12_recall_236
  have L230 : ∀ (z : Nat → Int) (A : Nat → Nat → Int), wp_recall_230 z A y2  Q → ∀ (H : Heap) (locs : List Loc) (ls : Array Slot), va_P D vwCl (mw_w om R C z A) H → va_D Ad (mw_w om R C z A) → va_S Ad s.heap H locs → lv_has ls 8 [(0, .ref om), (2, .int (hz_i y2))] → W p l e (headSpec wsX12_recall ({ frames := 1, cells := 0, slots := 0, locals := 22 } : Room)).room s m (List.toArray [.ref om, .int (hz_i y1), .int (hz_i y2)]) below meth c H locs 0 0 QQ (F0 m 230 ls []) := by
    intro z A hw H locs ls hP hD hS hl
    refine lv_aload_n hx hb dX12_recall_230 rfl (lv_at hl 0 rfl) ?_
    refine lv_iconst (v := hz_i 4) hx hb dX12_recall_231 (by decide +kernel) ?_
    refine lv_iload_n hx hb dX12_recall_232 rfl (lv_at hl 1 rfl) ?_
    have hFc := mw_free hD hS hA
    refine va_callv (va_runV (As := [.int (hz_i 4), .int (hz_i y2)]) (rest := []) ⟨hx, hb, hml, hown, hts⟩ (k_stop l D _ om R C z A 4 y2 _ hw) (cwV 2 hts gX12_recall_X12_stop rfl rfl rfl (by decide +kernel) ⟨Nat.le_of_ble_eq_true rfl, Nat.le_of_ble_eq_true rfl⟩) ⟨hm_blind, va_recv hK hP (ci := 12) (q0 := 0) rfl rfl, hm_pre hP hK hD hE⟩ rfl rfl hl.1 rfl (lv_room (Nat.le_of_ble_eq_true rfl)) dX12_recall_233 ⟨Nat.le_of_ble_eq_true rfl, Nat.le_of_ble_eq_true rfl⟩) hS (fun q _ h => hFc q h) hFc (fun u t H1 locs ht hvm hw hB hz1 hk1 hS => ?_)
    obtain ⟨r_1, z_2, _⟩ := u
    obtain ⟨hP, hK1, hD1⟩ := hB
    rw [ht] at hP
    have hD := hD1.weaken (fun k q _ h => hFc q.1 h)
    have hP : va_P D vwCl (mw_w om R C z_2 A) H1 := hP
    have hD : va_D Ad (mw_w om R C z_2 A) := hD
    generalize H1 = H at hP hS ⊢
    refine W.eq (g2 := F0 m 236 ls []) rfl ?_
    exact L236 z_2 A hw H locs ls hP hD hS (lv_sub hl [0] rfl)
  have L35 : ∀ (z : Nat → Int) (A : Nat → Nat → Int) (x3 : Int) (x4 : Int) (x5 : Int) (x6 : Int) (x7 : Int), wp_recall_35 z A y1 y2 x3 x4 x5 x6 x7  Q → ∀ (H : Heap) (locs : List Loc) (ls : Array Slot), va_P D vwCl (mw_w om R C z A) H → va_D Ad (mw_w om R C z A) → va_S Ad s.heap H locs → lv_has ls 8 [(0, .ref om), (1, .int (hz_i y1)), (2, .int (hz_i y2)), (3, .int (hz_i x3)), (4, .int (hz_i x4)), (5, .int (hz_i x5)), (6, .int (hz_i x6)), (7, .int (hz_i x7))] → W p l e (headSpec wsX12_recall ({ frames := 1, cells := 0, slots := 0, locals := 22 } : Room)).room s m (List.toArray [.ref om, .int (hz_i y1), .int (hz_i y2)]) below meth c H locs 0 0 QQ (F0 m 35 ls []) := by
    intro z A x3 x4 x5 x6 x7 hw
    obtain ⟨P35, hP35⟩ : ∃ P : (Nat → Nat → Int) → Int → Int → Int → Prop, ∀ (A : Nat → Nat → Int) (x5 : Int) (x6 : Int) (x7 : Int), P A x5 x6 x7 ↔ (∀ (H : Heap) (locs : List Loc) (ls : Array Slot), va_P D vwCl (mw_w om R C z A) H → va_D Ad (mw_w om R C z A) → va_S Ad s.heap H locs → lv_has ls 8 [(0, .ref om), (1, .int (hz_i y1)), (2, .int (hz_i y2)), (3, .int (hz_i x3)), (4, .int (hz_i x4)), (5, .int (hz_i x5)), (6, .int (hz_i x6)), (7, .int (hz_i x7))] → W p l e (headSpec wsX12_recall ({ frames := 1, cells := 0, slots := 0, locals := 22 } : Room)).room s m (List.toArray [.ref om, .int (hz_i y1), .int (hz_i y2)]) below meth c H locs 0 0 QQ (F0 m 35 ls [])) := ⟨fun (A : Nat → Nat → Int) (x5 : Int) (x6 : Int) (x7 : Int) => ∀ (H : Heap) (locs : List Loc) (ls : Array Slot), va_P D vwCl (mw_w om R C z A) H → va_D Ad (mw_w om R C z A) → va_S Ad s.heap H locs → lv_has ls 8 [(0, .ref om), (1, .int (hz_i y1)), (2, .int (hz_i y2)), (3, .int (hz_i x3)), (4, .int (hz_i x4)), (5, .int (hz_i x5)), (6, .int (hz_i x6)), (7, .int (hz_i x7))] → W p l e (headSpec wsX12_recall ({ frames := 1, cells := 0, slots := 0, locals := 22 } : Room)).room s m (List.toArray [.ref om, .int (hz_i y1), .int (hz_i y2)]) below meth c H locs 0 0 QQ (F0 m 35 ls []), fun _ _ _ _ => Iff.rfl⟩
    refine (hP35 A x5 x6 x7).mp (hw P35 ?_)
    intro A x5 x6 x7 hw
    refine (hP35 A x5 x6 x7).mpr ?_
    intro H locs ls hP hD hS hl
    have L192 : ∀ (A : Nat → Nat → Int) (x5 : Int) (x6 : Int) (x7 : Int), wp_recall_192 z A y1 y2 x3 x4 x5 x6 x7 P35 Q → ∀ (H : Heap) (locs : List Loc) (ls : Array Slot), va_P D vwCl (mw_w om R C z A) H → va_D Ad (mw_w om R C z A) → va_S Ad s.heap H locs → lv_has ls 8 [(0, .ref om), (1, .int (hz_i y1)), (2, .int (hz_i y2)), (3, .int (hz_i x3)), (4, .int (hz_i x4)), (5, .int (hz_i x5)), (6, .int (hz_i x6)), (7, .int (hz_i x7))] → W p l e (headSpec wsX12_recall ({ frames := 1, cells := 0, slots := 0, locals := 22 } : Room)).room s m (List.toArray [.ref om, .int (hz_i y1), .int (hz_i y2)]) below meth c H locs 0 0 QQ (F0 m 192 ls []) := by
      intro A x5 x6 x7 hw H locs ls hP hD hS hl
      obtain ⟨x7_3, hx7_3⟩ : ∃ y : Int, y = x7 + 1 := ⟨_, rfl⟩
      have hw := hw x7_3 hx7_3
      refine lv_iinc (v := hz_i x7_3) (lv' := [(7, .int (hz_i x7_3)), (0, .ref om), (1, .int (hz_i y1)), (2, .int (hz_i y2)), (3, .int (hz_i x3)), (4, .int (hz_i x4)), (5, .int (hz_i x5)), (6, .int (hz_i x6))]) hx hb dX12_recall_192 hl (k := 7) rfl (by rw [hx7_3]; exact hz_i_add _ _) (by decide) rfl (fun ls hl => ?_)
      refine lv_goto (tgt := 35) hx hb dX12_recall_195 (by decide) ?_
      exact (hP35 A x5 x6 x7_3).mp hw H locs ls hP hD hS (lv_sub hl [1, 2, 3, 4, 5, 6, 7, 0] rfl)
    have L189 : ∀ (A : Nat → Nat → Int) (x5 : Int) (x6 : Int) (x7 : Int), wp_recall_189 z A y1 y2 x3 x4 x5 x6 x7 P35 Q → ∀ (H : Heap) (locs : List Loc) (ls : Array Slot), va_P D vwCl (mw_w om R C z A) H → va_D Ad (mw_w om R C z A) → va_S Ad s.heap H locs → lv_has ls 8 [(0, .ref om), (1, .int (hz_i y1)), (2, .int (hz_i y2)), (3, .int (hz_i x3)), (4, .int (hz_i x4)), (5, .int (hz_i x5)), (6, .int (hz_i x6)), (7, .int (hz_i x7))] → W p l e (headSpec wsX12_recall ({ frames := 1, cells := 0, slots := 0, locals := 22 } : Room)).room s m (List.toArray [.ref om, .int (hz_i y1), .int (hz_i y2)]) below meth c H locs 0 0 QQ (F0 m 189 ls []) := by
      intro A x5 x6 x7 hw H locs ls hP hD hS hl
      obtain ⟨x5_4, hx5_4⟩ : ∃ y : Int, y = x5 + 1 := ⟨_, rfl⟩
      have hw := hw x5_4 hx5_4
      refine lv_iinc (v := hz_i x5_4) (lv' := [(5, .int (hz_i x5_4)), (0, .ref om), (1, .int (hz_i y1)), (2, .int (hz_i y2)), (3, .int (hz_i x3)), (4, .int (hz_i x4)), (6, .int (hz_i x6)), (7, .int (hz_i x7))]) hx hb dX12_recall_189 hl (k := 5) rfl (by rw [hx5_4]; exact hz_i_add _ _) (by decide) rfl (fun ls hl => ?_)
      exact L192 A x5_4 x6 x7 hw H locs ls hP hD hS (lv_sub hl [1, 2, 3, 4, 5, 0, 6, 7] rfl)
    have L187 : ∀ (A : Nat → Nat → Int) (x5 : Int) (x7 : Int) (t0 : Int), wp_recall_187 z A y1 y2 x3 x4 x5 x7 t0 P35 Q → ∀ (H : Heap) (locs : List Loc) (ls : Array Slot), va_P D vwCl (mw_w om R C z A) H → va_D Ad (mw_w om R C z A) → va_S Ad s.heap H locs → lv_has ls 8 [(0, .ref om), (1, .int (hz_i y1)), (2, .int (hz_i y2)), (3, .int (hz_i x3)), (4, .int (hz_i x4)), (5, .int (hz_i x5)), (7, .int (hz_i x7))] → W p l e (headSpec wsX12_recall ({ frames := 1, cells := 0, slots := 0, locals := 22 } : Room)).room s m (List.toArray [.ref om, .int (hz_i y1), .int (hz_i y2)]) below meth c H locs 0 0 QQ (F0 m 187 ls [.int (hz_i t0)]) := by
      intro A x5 x7 t0 hw H locs ls hP hD hS hl
      refine lv_istore (lv' := [(6, .int (hz_i t0)), (0, .ref om), (1, .int (hz_i y1)), (2, .int (hz_i y2)), (3, .int (hz_i x3)), (4, .int (hz_i x4)), (5, .int (hz_i x5)), (7, .int (hz_i x7))]) hx hb dX12_recall_187 hl (by decide) rfl (fun ls hl => ?_)
      exact L189 A x5 t0 x7 hw H locs ls hP hD hS (lv_sub hl [1, 2, 3, 4, 5, 6, 0, 7] rfl)
    have L186 : ∀ (A : Nat → Nat → Int) (x5 : Int) (x7 : Int), wp_recall_186 z A y1 y2 x3 x4 x5 x7 P35 Q → ∀ (H : Heap) (locs : List Loc) (ls : Array Slot), va_P D vwCl (mw_w om R C z A) H → va_D Ad (mw_w om R C z A) → va_S Ad s.heap H locs → lv_has ls 8 [(0, .ref om), (1, .int (hz_i y1)), (2, .int (hz_i y2)), (3, .int (hz_i x3)), (4, .int (hz_i x4)), (5, .int (hz_i x5)), (7, .int (hz_i x7))] → W p l e (headSpec wsX12_recall ({ frames := 1, cells := 0, slots := 0, locals := 22 } : Room)).room s m (List.toArray [.ref om, .int (hz_i y1), .int (hz_i y2)]) below meth c H locs 0 0 QQ (F0 m 186 ls []) := by
      intro A x5 x7 hw H locs ls hP hD hS hl
      refine lv_iconst (v := hz_i 0) hx hb dX12_recall_186 (by decide +kernel) ?_
      exact L187 A x5 x7 0 hw H locs ls hP hD hS (lv_sub hl [0, 1, 2, 3, 4, 5, 6] rfl)
    refine lv_iload hx hb dX12_recall_35 (lv_at hl 7 rfl) ?_
    refine lv_aload_n hx hb dX12_recall_37 rfl (lv_at hl 0 rfl) ?_
    refine mw_get (v := .int (hz_i (z 45))) hx hb hts hin12 hown hK hP 45 (by decide) (hts (.fieldLink RX12 275 "HiddenMovesModel" "open" "I") (List.mem_cons_of_mem _ (List.mem_append_left _ (List.mem_of_getElem? (i := 2) rfl)))) (fun _ h9 => h9) rfl dX12_recall_38 ?_
    obtain ⟨h9a, hw⟩ := hw
    obtain ⟨h9b, hw⟩ := hw
    refine hz_icmp_ge (tgt := 198) hx hb dX12_recall_41 (by decide) h9a h9b (fun c_5 => ?_) (fun c_5 => ?_)
    · have hw := hw.1 c_5
      refine lv_iload hx hb dX12_recall_198 (lv_at hl 4 rfl) ?_
      obtain ⟨h9a, hw⟩ := hw
      refine hz_if_eq (tgt := 214) hx hb dX12_recall_200 (by decide) h9a (fun c_6 => ?_) (fun c_6 => ?_)
      · have hw := hw.1 c_6
        refine lv_iload hx hb dX12_recall_214 (lv_at hl 6 rfl) ?_
        obtain ⟨h9a, hw⟩ := hw
        refine hz_if_eq (tgt := 230) hx hb dX12_recall_216 (by decide) h9a (fun c_7 => ?_) (fun c_7 => ?_)
        · have hw := hw.1 c_7
          exact L230 z A hw H locs ls hP hD hS (lv_sub hl [0, 2] rfl)
        · have hw := hw.2 c_7
          refine lv_iload hx hb dX12_recall_219 (lv_at hl 5 rfl) ?_
          refine lv_aload_n hx hb dX12_recall_221 rfl (lv_at hl 0 rfl) ?_
          refine mw_get (v := .ref (R 29)) hx hb hts hin12 hown hK hP 29 (by decide) (hts (.fieldLink RX12 163 "HiddenMovesModel" "earlier" "[I") (List.mem_cons_of_mem _ (List.mem_append_left _ (List.mem_of_getElem? (i := 1) rfl)))) (fun _ h9 => h9) rfl dX12_recall_222 ?_
          refine lv_iload_n hx hb dX12_recall_225 rfl (lv_at hl 3 rfl) ?_
          obtain ⟨h9i, hw⟩ := hw
          refine mw_ild (k := 29) (n := 40) (i := x3) hx hb hK hP 25 24 rfl rfl h9i (by decide) dX12_recall_226 ?_
          obtain ⟨h9a, hw⟩ := hw
          obtain ⟨h9b, hw⟩ := hw
          refine hz_icmp_eq (tgt := 236) hx hb dX12_recall_227 (by decide) h9a h9b (fun c_8 => ?_) (fun c_8 => ?_)
          · have hw := hw.1 c_8
            exact L236 z A hw H locs ls hP hD hS (lv_sub hl [0] rfl)
          · have hw := hw.2 c_8
            exact L230 z A hw H locs ls hP hD hS (lv_sub hl [0, 2] rfl)
      · have hw := hw.2 c_6
        refine lv_aload_n hx hb dX12_recall_203 rfl (lv_at hl 0 rfl) ?_
        refine mw_get (v := .ref (R 29)) hx hb hts hin12 hown hK hP 29 (by decide) (hts (.fieldLink RX12 163 "HiddenMovesModel" "earlier" "[I") (List.mem_cons_of_mem _ (List.mem_append_left _ (List.mem_of_getElem? (i := 1) rfl)))) (fun _ h9 => h9) rfl dX12_recall_204 ?_
        refine lv_iload_n hx hb dX12_recall_207 rfl (lv_at hl 3 rfl) ?_
        refine lv_iload hx hb dX12_recall_208 (lv_at hl 5 rfl) ?_
        obtain ⟨h9i, hw⟩ := hw
        refine mw_ist (k := 29) (n := 40) (i := x3) (v := x5) hx hb hK hP hD hS 25 24 rfl rfl (mw_a29 om R C z A) h9i (by decide) dX12_recall_210 (fun H locs hP hD hS => ?_)
        obtain ⟨A_9, hA_9⟩ : ∃ y : Nat → Nat → Int, y = hz_s A 29 x3 x5 := ⟨_, rfl⟩
        rw [← hA_9] at hP hD
        have hw := hw A_9 hA_9
        refine lv_goto (tgt := 236) hx hb dX12_recall_211 (by decide) ?_
        exact L236 z A_9 hw H locs ls hP hD hS (lv_sub hl [0] rfl)
    · have hw := hw.2 c_5
      refine lv_aload_n hx hb dX12_recall_44 rfl (lv_at hl 0 rfl) ?_
      refine mw_get (v := .ref (R 38)) hx hb hts hin12 hown hK hP 38 (by decide) (hts (.fieldLink RX12 178 "HiddenMovesModel" "openKind" "[I") (List.mem_cons_of_mem _ (List.mem_append_left _ (List.mem_of_getElem? (i := 3) rfl)))) (fun _ h9 => h9) rfl dX12_recall_45 ?_
      refine lv_iload hx hb dX12_recall_48 (lv_at hl 7 rfl) ?_
      obtain ⟨h9i, hw⟩ := hw
      refine mw_ild (k := 38) (n := 24) (i := x7) hx hb hK hP 29 28 rfl rfl h9i (by decide) dX12_recall_50 ?_
      refine lv_bipush (v := hz_i 63) hx hb dX12_recall_51 (by decide +kernel) ?_
      obtain ⟨h9a, hw⟩ := hw
      refine hz_icmp_eq (tgt := 192) hx hb dX12_recall_53 (by decide) h9a ⟨by decide, by decide⟩ (fun c_10 => ?_) (fun c_10 => ?_)
      · have hw := hw.1 c_10
        exact L192 A x5 x6 x7 hw H locs ls hP hD hS (lv_sub hl [0, 1, 2, 3, 4, 5, 6, 7] rfl)
      · have hw := hw.2 c_10
        refine lv_aload_n hx hb dX12_recall_56 rfl (lv_at hl 0 rfl) ?_
        refine mw_get (v := .ref (R 39)) hx hb hts hin12 hown hK hP 39 (by decide) (hts (.fieldLink RX12 181 "HiddenMovesModel" "openSet" "[I") (List.mem_cons_of_mem _ (List.mem_append_left _ (List.mem_of_getElem? (i := 4) rfl)))) (fun _ h9 => h9) rfl dX12_recall_57 ?_
        refine lv_iload hx hb dX12_recall_60 (lv_at hl 7 rfl) ?_
        obtain ⟨h9i, hw⟩ := hw
        refine mw_ild (k := 39) (n := 24) (i := x7) hx hb hK hP 30 29 rfl rfl h9i (by decide) dX12_recall_62 ?_
        refine lv_bipush (v := hz_i 10) hx hb dX12_recall_63 (by decide +kernel) ?_
        obtain ⟨h9a, hw⟩ := hw
        refine hz_idiv hx hb dX12_recall_65 (by decide) h9a ⟨by decide, by decide⟩ ?_
        refine lv_iload_n hx hb dX12_recall_66 rfl (lv_at hl 1 rfl) ?_
        refine lv_bipush (v := hz_i 10) hx hb dX12_recall_67 (by decide +kernel) ?_
        obtain ⟨h9a, hw⟩ := hw
        refine hz_idiv hx hb dX12_recall_69 (by decide) h9a ⟨by decide, by decide⟩ ?_
        obtain ⟨h9a, hw⟩ := hw
        obtain ⟨h9b, hw⟩ := hw
        refine hz_icmp_eq (tgt := 76) hx hb dX12_recall_70 (by decide) h9a h9b (fun c_11 => ?_) (fun c_11 => ?_)
        · have hw := hw.1 c_11
          refine lv_iload hx hb dX12_recall_76 (lv_at hl 4 rfl) ?_
          obtain ⟨h9a, hw⟩ := hw
          refine hz_if_eq (tgt := 122) hx hb dX12_recall_78 (by decide) h9a (fun c_12 => ?_) (fun c_12 => ?_)
          · have hw := hw.1 c_12
            refine lv_iload hx hb dX12_recall_122 (lv_at hl 6 rfl) ?_
            obtain ⟨h9a, hw⟩ := hw
            refine hz_if_eq (tgt := 186) hx hb dX12_recall_124 (by decide) h9a (fun c_13 => ?_) (fun c_13 => ?_)
            · have hw := hw.1 c_13
              exact L186 A x5 x7 hw H locs ls hP hD hS (lv_sub hl [0, 1, 2, 3, 4, 5, 7] rfl)
            · have hw := hw.2 c_13
              refine lv_iload hx hb dX12_recall_127 (lv_at hl 5 rfl) ?_
              refine lv_aload_n hx hb dX12_recall_129 rfl (lv_at hl 0 rfl) ?_
              refine mw_get (v := .ref (R 29)) hx hb hts hin12 hown hK hP 29 (by decide) (hts (.fieldLink RX12 163 "HiddenMovesModel" "earlier" "[I") (List.mem_cons_of_mem _ (List.mem_append_left _ (List.mem_of_getElem? (i := 1) rfl)))) (fun _ h9 => h9) rfl dX12_recall_130 ?_
              refine lv_iload_n hx hb dX12_recall_133 rfl (lv_at hl 3 rfl) ?_
              obtain ⟨h9i, hw⟩ := hw
              refine mw_ild (k := 29) (n := 40) (i := x3) hx hb hK hP 25 24 rfl rfl h9i (by decide) dX12_recall_134 ?_
              obtain ⟨h9a, hw⟩ := hw
              obtain ⟨h9b, hw⟩ := hw
              refine hz_icmp_ge (tgt := 186) hx hb dX12_recall_135 (by decide) h9a h9b (fun c_14 => ?_) (fun c_14 => ?_)
              · have hw := hw.1 c_14
                exact L186 A x5 x7 hw H locs ls hP hD hS (lv_sub hl [0, 1, 2, 3, 4, 5, 7] rfl)
              · have hw := hw.2 c_14
                refine lv_aload_n hx hb dX12_recall_138 rfl (lv_at hl 0 rfl) ?_
                refine mw_get (v := .ref (R 30)) hx hb hts hin12 hown hK hP 30 (by decide) (hts (.fieldLink RX12 166 "HiddenMovesModel" "earlierSet" "[I") (List.mem_cons_of_mem _ (List.mem_append_left _ (List.mem_of_getElem? (i := 5) rfl)))) (fun _ h9 => h9) rfl dX12_recall_139 ?_
                refine lv_bipush (v := hz_i 20) hx hb dX12_recall_142 (by decide +kernel) ?_
                refine lv_iload_n hx hb dX12_recall_144 rfl (lv_at hl 3 rfl) ?_
                refine hz_imul hx hb dX12_recall_145 ?_
                refine lv_iload hx hb dX12_recall_146 (lv_at hl 5 rfl) ?_
                refine hz_iadd hx hb dX12_recall_148 ?_
                obtain ⟨h9i, hw⟩ := hw
                refine mw_ild (k := 30) (n := 800) (i := (20 * x3) + x5) hx hb hK hP 26 25 rfl rfl h9i (by decide) dX12_recall_149 ?_
                refine lv_aload_n hx hb dX12_recall_150 rfl (lv_at hl 0 rfl) ?_
                refine mw_get (v := .ref (R 39)) hx hb hts hin12 hown hK hP 39 (by decide) (hts (.fieldLink RX12 181 "HiddenMovesModel" "openSet" "[I") (List.mem_cons_of_mem _ (List.mem_append_left _ (List.mem_of_getElem? (i := 4) rfl)))) (fun _ h9 => h9) rfl dX12_recall_151 ?_
                refine lv_iload hx hb dX12_recall_154 (lv_at hl 7 rfl) ?_
                obtain ⟨h9i, hw⟩ := hw
                refine mw_ild (k := 39) (n := 24) (i := x7) hx hb hK hP 30 29 rfl rfl h9i (by decide) dX12_recall_156 ?_
                obtain ⟨h9a, hw⟩ := hw
                obtain ⟨h9b, hw⟩ := hw
                refine hz_icmp_ne (tgt := 186) hx hb dX12_recall_157 (by decide) h9a h9b (fun c_15 => ?_) (fun c_15 => ?_)
                · have hw := hw.1 c_15
                  exact L186 A x5 x7 hw H locs ls hP hD hS (lv_sub hl [0, 1, 2, 3, 4, 5, 7] rfl)
                · have hw := hw.2 c_15
                  refine lv_aload_n hx hb dX12_recall_160 rfl (lv_at hl 0 rfl) ?_
                  refine mw_get (v := .ref (R 31)) hx hb hts hin12 hown hK hP 31 (by decide) (hts (.fieldLink RX12 169 "HiddenMovesModel" "earlierMove" "[I") (List.mem_cons_of_mem _ (List.mem_append_left _ (List.mem_of_getElem? (i := 6) rfl)))) (fun _ h9 => h9) rfl dX12_recall_161 ?_
                  refine lv_bipush (v := hz_i 20) hx hb dX12_recall_164 (by decide +kernel) ?_
                  refine lv_iload_n hx hb dX12_recall_166 rfl (lv_at hl 3 rfl) ?_
                  refine hz_imul hx hb dX12_recall_167 ?_
                  refine lv_iload hx hb dX12_recall_168 (lv_at hl 5 rfl) ?_
                  refine hz_iadd hx hb dX12_recall_170 ?_
                  obtain ⟨h9i, hw⟩ := hw
                  refine mw_ild (k := 31) (n := 800) (i := (20 * x3) + x5) hx hb hK hP 27 26 rfl rfl h9i (by decide) dX12_recall_171 ?_
                  refine lv_aload_n hx hb dX12_recall_172 rfl (lv_at hl 0 rfl) ?_
                  refine mw_get (v := .ref (R 40)) hx hb hts hin12 hown hK hP 40 (by decide) (hts (.fieldLink RX12 184 "HiddenMovesModel" "openMoves" "[I") (List.mem_cons_of_mem _ (List.mem_append_left _ (List.mem_of_getElem? (i := 7) rfl)))) (fun _ h9 => h9) rfl dX12_recall_173 ?_
                  refine lv_iload hx hb dX12_recall_176 (lv_at hl 7 rfl) ?_
                  obtain ⟨h9i, hw⟩ := hw
                  refine mw_ild (k := 40) (n := 24) (i := x7) hx hb hK hP 31 30 rfl rfl h9i (by decide) dX12_recall_178 ?_
                  obtain ⟨h9a, hw⟩ := hw
                  obtain ⟨h9b, hw⟩ := hw
                  refine hz_icmp_ne (tgt := 186) hx hb dX12_recall_179 (by decide) h9a h9b (fun c_16 => ?_) (fun c_16 => ?_)
                  · have hw := hw.1 c_16
                    exact L186 A x5 x7 hw H locs ls hP hD hS (lv_sub hl [0, 1, 2, 3, 4, 5, 7] rfl)
                  · have hw := hw.2 c_16
                    refine lv_iconst (v := hz_i 1) hx hb dX12_recall_182 (by decide +kernel) ?_
                    refine lv_goto (tgt := 187) hx hb dX12_recall_183 (by decide) ?_
                    exact L187 A x5 x7 1 hw H locs ls hP hD hS (lv_sub hl [0, 1, 2, 3, 4, 5, 7] rfl)
          · have hw := hw.2 c_12
            refine lv_aload_n hx hb dX12_recall_81 rfl (lv_at hl 0 rfl) ?_
            refine mw_get (v := .ref (R 30)) hx hb hts hin12 hown hK hP 30 (by decide) (hts (.fieldLink RX12 166 "HiddenMovesModel" "earlierSet" "[I") (List.mem_cons_of_mem _ (List.mem_append_left _ (List.mem_of_getElem? (i := 5) rfl)))) (fun _ h9 => h9) rfl dX12_recall_82 ?_
            refine lv_bipush (v := hz_i 20) hx hb dX12_recall_85 (by decide +kernel) ?_
            refine lv_iload_n hx hb dX12_recall_87 rfl (lv_at hl 3 rfl) ?_
            refine hz_imul hx hb dX12_recall_88 ?_
            refine lv_iload hx hb dX12_recall_89 (lv_at hl 5 rfl) ?_
            refine hz_iadd hx hb dX12_recall_91 ?_
            refine lv_aload_n hx hb dX12_recall_92 rfl (lv_at hl 0 rfl) ?_
            refine mw_get (v := .ref (R 39)) hx hb hts hin12 hown hK hP 39 (by decide) (hts (.fieldLink RX12 181 "HiddenMovesModel" "openSet" "[I") (List.mem_cons_of_mem _ (List.mem_append_left _ (List.mem_of_getElem? (i := 4) rfl)))) (fun _ h9 => h9) rfl dX12_recall_93 ?_
            refine lv_iload hx hb dX12_recall_96 (lv_at hl 7 rfl) ?_
            obtain ⟨h9i, hw⟩ := hw
            refine mw_ild (k := 39) (n := 24) (i := x7) hx hb hK hP 30 29 rfl rfl h9i (by decide) dX12_recall_98 ?_
            obtain ⟨h9i, hw⟩ := hw
            refine mw_ist (k := 30) (n := 800) (i := (20 * x3) + x5) (v := A 39 (x7.toNat)) hx hb hK hP hD hS 26 25 rfl rfl (mw_a30 om R C z A) h9i (by decide) dX12_recall_99 (fun H locs hP hD hS => ?_)
            obtain ⟨A_17, hA_17⟩ : ∃ y : Nat → Nat → Int, y = hz_s A 30 ((20 * x3) + x5) (A 39 (x7.toNat)) := ⟨_, rfl⟩
            rw [← hA_17] at hP hD
            have hw := hw A_17 hA_17
            refine lv_aload_n hx hb dX12_recall_100 rfl (lv_at hl 0 rfl) ?_
            refine mw_get (v := .ref (R 31)) hx hb hts hin12 hown hK hP 31 (by decide) (hts (.fieldLink RX12 169 "HiddenMovesModel" "earlierMove" "[I") (List.mem_cons_of_mem _ (List.mem_append_left _ (List.mem_of_getElem? (i := 6) rfl)))) (fun _ h9 => h9) rfl dX12_recall_101 ?_
            refine lv_bipush (v := hz_i 20) hx hb dX12_recall_104 (by decide +kernel) ?_
            refine lv_iload_n hx hb dX12_recall_106 rfl (lv_at hl 3 rfl) ?_
            refine hz_imul hx hb dX12_recall_107 ?_
            refine lv_iload hx hb dX12_recall_108 (lv_at hl 5 rfl) ?_
            refine hz_iadd hx hb dX12_recall_110 ?_
            refine lv_aload_n hx hb dX12_recall_111 rfl (lv_at hl 0 rfl) ?_
            refine mw_get (v := .ref (R 40)) hx hb hts hin12 hown hK hP 40 (by decide) (hts (.fieldLink RX12 184 "HiddenMovesModel" "openMoves" "[I") (List.mem_cons_of_mem _ (List.mem_append_left _ (List.mem_of_getElem? (i := 7) rfl)))) (fun _ h9 => h9) rfl dX12_recall_112 ?_
            refine lv_iload hx hb dX12_recall_115 (lv_at hl 7 rfl) ?_
            obtain ⟨h9i, hw⟩ := hw
            refine mw_ild (k := 40) (n := 24) (i := x7) hx hb hK hP 31 30 rfl rfl h9i (by decide) dX12_recall_117 ?_
            obtain ⟨h9i, hw⟩ := hw
            refine mw_ist (k := 31) (n := 800) (i := (20 * x3) + x5) (v := A_17 40 (x7.toNat)) hx hb hK hP hD hS 27 26 rfl rfl (mw_a31 om R C z A_17) h9i (by decide) dX12_recall_118 (fun H locs hP hD hS => ?_)
            obtain ⟨A_18, hA_18⟩ : ∃ y : Nat → Nat → Int, y = hz_s A_17 31 ((20 * x3) + x5) (A_17 40 (x7.toNat)) := ⟨_, rfl⟩
            rw [← hA_18] at hP hD
            have hw := hw A_18 hA_18
            refine lv_goto (tgt := 189) hx hb dX12_recall_119 (by decide) ?_
            exact L189 A_18 x5 x6 x7 hw H locs ls hP hD hS (lv_sub hl [0, 1, 2, 3, 4, 5, 6, 7] rfl)
        · have hw := hw.2 c_11
          refine lv_goto (tgt := 192) hx hb dX12_recall_73 (by decide) ?_
          exact L192 A x5 x6 x7 hw H locs ls hP hD hS (lv_sub hl [0, 1, 2, 3, 4, 5, 6, 7] rfl)
  have L24 : ∀ (z : Nat → Int) (A : Nat → Nat → Int) (x3 : Int) (t0 : Int), wp_recall_24 z A y1 y2 x3 t0  Q → ∀ (H : Heap) (locs : List Loc) (ls : Array Slot), va_P D vwCl (mw_w om R C z A) H → va_D Ad (mw_w om R C z A) → va_S Ad s.heap H locs → lv_has ls 8 [(0, .ref om), (1, .int (hz_i y1)), (2, .int (hz_i y2)), (3, .int (hz_i x3))] → W p l e (headSpec wsX12_recall ({ frames := 1, cells := 0, slots := 0, locals := 22 } : Room)).room s m (List.toArray [.ref om, .int (hz_i y1), .int (hz_i y2)]) below meth c H locs 0 0 QQ (F0 m 24 ls [.int (hz_i t0)]) := by
    intro z A x3 t0 hw H locs ls hP hD hS hl
    refine lv_istore (lv' := [(4, .int (hz_i t0)), (0, .ref om), (1, .int (hz_i y1)), (2, .int (hz_i y2)), (3, .int (hz_i x3))]) hx hb dX12_recall_24 hl (by decide) rfl (fun ls hl => ?_)
    refine lv_iconst (v := hz_i 0) hx hb dX12_recall_26 (by decide +kernel) ?_
    refine lv_istore (lv' := [(5, .int (hz_i 0)), (4, .int (hz_i t0)), (0, .ref om), (1, .int (hz_i y1)), (2, .int (hz_i y2)), (3, .int (hz_i x3))]) hx hb dX12_recall_27 hl (by decide) rfl (fun ls hl => ?_)
    refine lv_iconst (v := hz_i 1) hx hb dX12_recall_29 (by decide +kernel) ?_
    refine lv_istore (lv' := [(6, .int (hz_i 1)), (5, .int (hz_i 0)), (4, .int (hz_i t0)), (0, .ref om), (1, .int (hz_i y1)), (2, .int (hz_i y2)), (3, .int (hz_i x3))]) hx hb dX12_recall_30 hl (by decide) rfl (fun ls hl => ?_)
    refine lv_iconst (v := hz_i 0) hx hb dX12_recall_32 (by decide +kernel) ?_
    refine lv_istore (lv' := [(7, .int (hz_i 0)), (6, .int (hz_i 1)), (5, .int (hz_i 0)), (4, .int (hz_i t0)), (0, .ref om), (1, .int (hz_i y1)), (2, .int (hz_i y2)), (3, .int (hz_i x3))]) hx hb dX12_recall_33 hl (by decide) rfl (fun ls hl => ?_)
    exact L35 z A x3 t0 0 1 0 hw H locs ls hP hD hS (lv_sub hl [4, 5, 6, 7, 3, 2, 1, 0] rfl)
  have hP := hP0; have hD := hD0; have hS := hS0; have hl := hl0; have hw := hw0
  obtain ⟨H, hH⟩ : ∃ H : Heap, H = s.heap := ⟨_, rfl⟩
  obtain ⟨locs, hlocs⟩ : ∃ L : List Loc, L = [] := ⟨_, rfl⟩
  rw [← hH] at hP
  have hS : va_S Ad s.heap H locs := by rw [hH, hlocs]; exact hS
  refine mw_HL hH hlocs ?_
  refine lv_bipush (v := hz_i 20) hx hb dX12_recall_0 (by decide +kernel) ?_
  refine lv_aload_n hx hb dX12_recall_2 rfl (lv_at hl 0 rfl) ?_
  refine mw_get (v := .int (hz_i (z 33))) hx hb hts hin12 hown hK hP 33 (by decide) (hts (.fieldLink RX12 172 "HiddenMovesModel" "draft" "I") (List.mem_cons_of_mem _ (List.mem_append_left _ (List.mem_of_getElem? (i := 0) rfl)))) (fun _ h9 => h9) rfl dX12_recall_3 ?_
  refine hz_imul hx hb dX12_recall_6 ?_
  refine lv_iload_n hx hb dX12_recall_7 rfl (lv_at hl 1 rfl) ?_
  refine hz_iadd hx hb dX12_recall_8 ?_
  refine hz_topi (fun x3_19 hx3_19 => ?_)
  have hw := hw x3_19 hx3_19
  refine lv_istore_n (lv' := [(3, .int (hz_i x3_19)), (0, .ref om), (1, .int (hz_i y1)), (2, .int (hz_i y2))]) hx hb dX12_recall_9 rfl hl (by decide) rfl (fun ls hl => ?_)
  refine lv_aload_n hx hb dX12_recall_10 rfl (lv_at hl 1 rfl) ?_
  refine mw_get (v := .ref (R 29)) hx hb hts hin12 hown hK hP 29 (by decide) (hts (.fieldLink RX12 163 "HiddenMovesModel" "earlier" "[I") (List.mem_cons_of_mem _ (List.mem_append_left _ (List.mem_of_getElem? (i := 1) rfl)))) (fun _ h9 => h9) rfl dX12_recall_11 ?_
  refine lv_iload_n hx hb dX12_recall_14 rfl (lv_at hl 0 rfl) ?_
  obtain ⟨h9i, hw⟩ := hw
  refine mw_ild (k := 29) (n := 40) (i := x3_19) hx hb hK hP 25 24 rfl rfl h9i (by decide) dX12_recall_15 ?_
  obtain ⟨h9a, hw⟩ := hw
  refine hz_if_ge (tgt := 23) hx hb dX12_recall_16 (by decide) h9a (fun c_20 => ?_) (fun c_20 => ?_)
  · have hw := hw.1 c_20
    refine lv_iconst (v := hz_i 0) hx hb dX12_recall_23 (by decide +kernel) ?_
    exact L24 z A x3_19 0 hw H locs ls hP hD hS (lv_sub hl [1, 2, 3, 0] rfl)
  · have hw := hw.2 c_20
    refine lv_iconst (v := hz_i 1) hx hb dX12_recall_19 (by decide +kernel) ?_
    refine lv_goto (tgt := 24) hx hb dX12_recall_20 (by decide) ?_
    exact L24 z A x3_19 1 hw H locs ls hP hD hS (lv_sub hl [1, 2, 3, 0] rfl)

noncomputable def wp_beginNode_333 (z : Nat → Int) (A : Nat → Nat → Int) (Q : (Nat → Int) → (Nat → Nat → Int) → Prop) : Prop := ∀ z_1 : Nat → Int, z_1 = lp_U z 45 ((z 45) + 1) → Q z_1 A
noncomputable def wp_beginNode_199 (z : Nat → Int) (A : Nat → Nat → Int) (Q : (Nat → Int) → (Nat → Nat → Int) → Prop) : Prop := Q z A
noncomputable def wp_beginNode_121 (z : Nat → Int) (A : Nat → Nat → Int) (y1 : Int) (y3 : Int) (x5 : Int) (x6 : Int) (x7 : Int) (Q : (Nat → Int) → (Nat → Nat → Int) → Prop) : Prop := wp_divisor z A y1 y3 (fun r_2 => ¬ r_2 = 0 ∧ hz_rL y3 ∧ hz_rL r_2 ∧ hz_rL (y3.tdiv r_2) ∧ ((y3.tdiv r_2 < 1000000000 → hz_rI x6 ∧ ((¬ x6 = 91 → (0 ≤ z 45 ∧ z 45 < 24) ∧ ∀ A_5 : Nat → Nat → Int, A_5 = hz_s A 37 (z 45) x5 → (0 ≤ z 45 ∧ z 45 < 24) ∧ ∀ A_6 : Nat → Nat → Int, A_6 = hz_s A_5 38 (z 45) x6 → (0 ≤ z 45 ∧ z 45 < 24) ∧ ∀ A_7 : Nat → Nat → Int, A_7 = hz_s A_6 39 (z 45) x7 → (0 ≤ z 45 ∧ z 45 < 24) ∧ ∀ A_8 : Nat → Nat → Int, A_8 = hz_s A_7 40 (z 45) (-1) → ¬ r_2 = 0 ∧ hz_rL y1 ∧ hz_rL r_2 ∧ (0 ≤ z 45 ∧ z 45 < 24) ∧ ∀ A_9 : Nat → Nat → Int, A_9 = hz_s A_8 41 (z 45) (y1.tdiv r_2) → ¬ r_2 = 0 ∧ hz_rL y3 ∧ hz_rL r_2 ∧ (0 ≤ z 45 ∧ z 45 < 24) ∧ ∀ A_10 : Nat → Nat → Int, A_10 = hz_s A_9 42 (z 45) (y3.tdiv r_2) → hz_rI x6 ∧ ((¬ x6 = 63 → (0 ≤ z 33 ∧ z 33 < 2) ∧ (0 ≤ z 33 ∧ z 33 < 2) ∧ ∀ A_12 : Nat → Nat → Int, A_12 = hz_s A_10 16 (z 33) ((A_10 16 ((z 33).toNat)) + 1) → wp_recall z A_12 x7 x5 (fun z_14 A_15 => ∀ z_16 : Nat → Int, z_16 = lp_U z_14 46 ((z_14 46) + 3) → wp_beginNode_333 z_16 A_15  Q)) ∧ (x6 = 63 → (0 ≤ z 33 ∧ z 33 < 2) ∧ (0 ≤ z 33 ∧ z 33 < 2) ∧ ∀ A_17 : Nat → Nat → Int, A_17 = hz_s A_10 15 (z 33) ((A_10 15 ((z 33).toNat)) + 1) → ∀ z_18 : Nat → Int, z_18 = lp_U z 46 ((z 46) + 2) → wp_beginNode_333 z_18 A_17  Q))) ∧ (x6 = 91 → ∀ z_19 : Nat → Int, z_19 = lp_U z 46 ((z 46) + 1) → wp_fraction z_19 A 0 (fun z_21 => hz_rI (z_21 35) ∧ ((¬ z_21 35 = 0 → wp_beginNode_199 z_21 A  Q) ∧ (z_21 35 = 0 → ¬ r_2 = 0 ∧ hz_rL y1 ∧ hz_rL r_2 ∧ ¬ r_2 = 0 ∧ hz_rL y3 ∧ hz_rL r_2 ∧ wp_end z_21 A (y1.tdiv r_2) (y3.tdiv r_2) (fun A_24 => ∀ z_25 : Nat → Int, z_25 = lp_U z_21 46 ((z_21 46) + 1) → wp_beginNode_199 z_25 A_24  Q))))))) ∧ (¬ (y3.tdiv r_2 < 1000000000) → wp_stop z A 6 x5 (fun z_27 => Q z_27 A))))
noncomputable def wp_beginNode_92 (z : Nat → Int) (A : Nat → Nat → Int) (y1 : Int) (y3 : Int) (x5 : Int) (x6 : Int) (t0 : Int) (Q : (Nat → Int) → (Nat → Nat → Int) → Prop) : Prop := (0 ≤ (z 46) + 1 ∧ (z 46) + 1 < 4001) ∧ wp_findSet z A t0 (A 9 (((z 46) + 1).toNat)) (fun r_28 A_29 => hz_rI r_28 ∧ ((0 ≤ r_28 → wp_beginNode_121 z A_29 y1 y3 x5 x6 r_28  Q) ∧ (¬ (0 ≤ r_28) → wp_stop z A_29 2 x5 (fun z_32 => Q z_32 A_29))))
noncomputable def wp_beginNode_79 (z : Nat → Int) (A : Nat → Nat → Int) (y1 : Int) (y3 : Int) (x5 : Int) (x6 : Int) (Q : (Nat → Int) → (Nat → Nat → Int) → Prop) : Prop := hz_rI x6 ∧ ((¬ x6 = 65 → wp_beginNode_92 z A y1 y3 x5 x6 1  Q) ∧ (x6 = 65 → wp_beginNode_92 z A y1 y3 x5 x6 0  Q))
noncomputable def wp_beginNode_54 (z : Nat → Int) (A : Nat → Nat → Int) (x5 : Int) (Q : (Nat → Int) → (Nat → Nat → Int) → Prop) : Prop := wp_stop z A 2 x5 (fun z_35 => Q z_35 A)
noncomputable def wp_beginNode (z : Nat → Int) (A : Nat → Nat → Int) (y1 : Int) (y3 : Int) (Q : (Nat → Int) → (Nat → Nat → Int) → Prop) : Prop := ∀ x5_36 : Int, x5_36 = z 46 → (0 ≤ z 46 ∧ z 46 < 4001) ∧ ∀ x6_37 : Int, x6_37 = A 7 ((z 46).toNat) → (0 ≤ z 33 ∧ z 33 < 2) ∧ (0 ≤ z 33 ∧ z 33 < 2) ∧ ∀ A_38 : Nat → Nat → Int, A_38 = hz_s A 13 (z 33) ((A 13 ((z 33).toNat)) + 1) → (0 ≤ z 33 ∧ z 33 < 2) ∧ hz_rI (A_38 13 ((z 33).toNat)) ∧ ((400 < A_38 13 ((z 33).toNat) → wp_beginNode_54 z A_38 x5_36  Q) ∧ (¬ (400 < A_38 13 ((z 33).toNat)) → hz_rI (z 45) ∧ ((z 45 ≤ 20 → hz_rI x6_37 ∧ ((x6_37 = 65 → wp_beginNode_79 z A_38 y1 y3 x5_36 x6_37  Q) ∧ (¬ (x6_37 = 65) → hz_rI x6_37 ∧ ((¬ x6_37 = 66 → wp_beginNode_121 z A_38 y1 y3 x5_36 x6_37 (-1)  Q) ∧ (x6_37 = 66 → wp_beginNode_79 z A_38 y1 y3 x5_36 x6_37  Q))))) ∧ (¬ (z 45 ≤ 20) → wp_beginNode_54 z A_38 x5_36  Q))))
set_option maxHeartbeats 4000000 in
set_option maxRecDepth 100000 in
theorem k_beginNode (l : Launch) (D : va_G) (sz : Nat) (om : Nat) (R : Nat → Nat) (C : Nat → ClassId) (z : Nat → Int) (A : Nat → Nat → Int) (y1 : Int) (y3 : Int) (Q : (Nat → Int) → (Nat → Nat → Int) → Prop) (hw : wp_beginNode z A y1 y3 Q) : Met l yX12_beginNode wsX12_beginNode ({ frames := 2, cells := 0, slots := 0, locals := 61 } : Room) (va_Pc [.ref om, .long (hz_l y1), .long (hz_l y3)] (hm_P D (mw_w om R C z A) (mw_t C) sz)) (va_Qv (S := Int × (Nat → Int) × (Nat → Nat → Int)) (fun u => Q u.2.1 u.2.2) (fun u t => hm_B D (va_A (mw_w om R C z A) sz) (mw_w om R C u.2.1 u.2.2) (mw_t C) t) (va_A (mw_w om R C z A) sz)) 0 0 (va_A (mw_w om R C z A) sz) := by
  refine Met.ofW (cc := cX12_beginNode) (maxL := 10) (ret := none) (by decide) rfl ?_
  intro p e s m args below meth c s₁ B hml hv
  obtain ⟨rfl, hsz, hP, hK, hD0, hE⟩ := hv
  have hx := B.exec
  have hb := B.bytes
  have hr := B.returns
  have hts := atoms_spec (ws := wsX12_beginNode) B.pre
  have hown : s.vm.findClass RX12 = some m.cls := findClass_of_methodNamed B.named
  have hlocks := B.notSynchronized
  have hin12 : ∀ w ∈ u_ws RX12 TX12 58, w ∈ wsX12_beginNode := fun w h => List.mem_cons_of_mem _ (List.mem_append_right _ (h))
  subst hsz
  have hD := hD0.self (sz := s.heap.size)
  generalize hAe : va_A (mw_w om R C z A) s.heap.size = Ad at hD ⊢
  have hA : ∀ q : Nat, s.heap.size ≤ q → Ad q := fun q h => by rw [← hAe]; exact Or.inr h
  have hS : va_S Ad s.heap s.heap [] := va_S.rf
  have hl := lv_entry ([.ref om, .long (hz_l y1), .long (hz_l y3)]) (n := 10) (Nat.le_of_ble_eq_true rfl)
  rw [lg_entry_eq]
  generalize (lg_sl ([.ref om, .long (hz_l y1), .long (hz_l y3)]) ++ List.replicate (10 - (lg_sl ([.ref om, .long (hz_l y1), .long (hz_l y3)])).length) Slot.unset).toArray = ls at hl ⊢
  have hl : lv_has ls 10 [(0, .ref om), (1, .long (hz_l y1)), (3, .long (hz_l y3))] := hl
  refine mw_Q (fun QQ hQQ => ?_)
  have hP0 := hP; have hD0 := hD; have hS0 := hS; have hl0 := hl; have hw0 := hw
  clear hP hD hS hl hw
  have L333 : ∀ (z : Nat → Int) (A : Nat → Nat → Int), wp_beginNode_333 z A  Q → ∀ (H : Heap) (locs : List Loc) (ls : Array Slot), va_P D vwCl (mw_w om R C z A) H → va_D Ad (mw_w om R C z A) → va_S Ad s.heap H locs → lv_has ls 10 [(0, .ref om)] → W p l e (headSpec wsX12_beginNode ({ frames := 2, cells := 0, slots := 0, locals := 61 } : Room)).room s m (List.toArray [.ref om, .long (hz_l y1), .long (hz_l y3)]) below meth c H locs 0 0 QQ (F0 m 333 ls []) := by
    intro z A hw H locs ls hP hD hS hl
    refine lv_aload_n hx hb dX12_beginNode_333 rfl (lv_at hl 0 rfl) ?_
    refine lv_dup hx hb dX12_beginNode_334 rfl ?_
    refine mw_get (v := .int (hz_i (z 45))) hx hb hts hin12 hown hK hP 45 (by decide) (hts (.fieldLink RX12 275 "HiddenMovesModel" "open" "I") (List.mem_cons_of_mem _ (List.mem_append_left _ (List.mem_append_left _ (List.mem_of_getElem? (i := 4) rfl))))) (fun _ h9 => h9) rfl dX12_beginNode_335 ?_
    refine lv_iconst (v := hz_i 1) hx hb dX12_beginNode_338 (by decide +kernel) ?_
    refine hz_iadd hx hb dX12_beginNode_339 ?_
    refine mw_put (ty := .int) (v := .int (hz_i ((z 45) + 1))) hx hb hts hin12 hown hK hP hD hS 45 (by decide) (hts (.fieldLink RX12 275 "HiddenMovesModel" "open" "I") (List.mem_cons_of_mem _ (List.mem_append_left _ (List.mem_append_left _ (List.mem_of_getElem? (i := 4) rfl))))) (fun _ h9 => h9) rfl (by decide +kernel) rfl rfl (mw_s45 R z ((z 45) + 1)) dX12_beginNode_340 (fun H locs hP hD hS => ?_)
    obtain ⟨z_1, hz_1⟩ : ∃ y : Nat → Int, y = lp_U z 45 ((z 45) + 1) := ⟨_, rfl⟩
    rw [← hz_1] at hP hD
    have hw := hw z_1 hz_1
    subst hQQ
    subst hAe
    exact W.vret hx hb hr (fun t ht hW => ⟨⟨(0, z_1, A), rfl, hw, by rw [ht]; exact hP, va_K.moved hW.alike hK, hD⟩, hS.F ht⟩) hS.2.2 dX12_beginNode_343
  have L199 : ∀ (z : Nat → Int) (A : Nat → Nat → Int), wp_beginNode_199 z A  Q → ∀ (H : Heap) (locs : List Loc) (ls : Array Slot), va_P D vwCl (mw_w om R C z A) H → va_D Ad (mw_w om R C z A) → va_S Ad s.heap H locs → lv_has ls 10 [(0, .ref om)] → W p l e (headSpec wsX12_beginNode ({ frames := 2, cells := 0, slots := 0, locals := 61 } : Room)).room s m (List.toArray [.ref om, .long (hz_l y1), .long (hz_l y3)]) below meth c H locs 0 0 QQ (F0 m 199 ls []) := by
    intro z A hw H locs ls hP hD hS hl
    subst hQQ
    subst hAe
    exact W.vret hx hb hr (fun t ht hW => ⟨⟨(0, z, A), rfl, hw, by rw [ht]; exact hP, va_K.moved hW.alike hK, hD⟩, hS.F ht⟩) hS.2.2 dX12_beginNode_199
  have L121 : ∀ (z : Nat → Int) (A : Nat → Nat → Int) (x5 : Int) (x6 : Int) (x7 : Int), wp_beginNode_121 z A y1 y3 x5 x6 x7  Q → ∀ (H : Heap) (locs : List Loc) (ls : Array Slot), va_P D vwCl (mw_w om R C z A) H → va_D Ad (mw_w om R C z A) → va_S Ad s.heap H locs → lv_has ls 10 [(0, .ref om), (1, .long (hz_l y1)), (3, .long (hz_l y3)), (5, .int (hz_i x5)), (6, .int (hz_i x6)), (7, .int (hz_i x7))] → W p l e (headSpec wsX12_beginNode ({ frames := 2, cells := 0, slots := 0, locals := 61 } : Room)).room s m (List.toArray [.ref om, .long (hz_l y1), .long (hz_l y3)]) below meth c H locs 0 0 QQ (F0 m 121 ls []) := by
    intro z A x5 x6 x7 hw H locs ls hP hD hS hl
    refine lv_lload_n hx hb dX12_beginNode_121 rfl (lv_at hl 1 rfl) ?_
    refine lv_lload_n hx hb dX12_beginNode_122 rfl (lv_at hl 2 rfl) ?_
    have hFc := mw_free hD hS hA
    refine va_calll (va_runS (As := [.long (hz_l y1), .long (hz_l y3)]) (rest := []) ⟨hx, hb, hml, hown, hts⟩ (k_divisor l D _ om R C z A y1 y3 _ hw) (va_cwS 2 hts gX12_beginNode_X12_divisor rfl rfl rfl (by decide +kernel) ⟨Nat.le_of_ble_eq_true rfl, Nat.le_of_ble_eq_true rfl⟩) ⟨hm_blind, hm_pre hP hK hD hE⟩ rfl rfl hl.1 rfl (lv_room (Nat.le_of_ble_eq_true rfl)) dX12_beginNode_123 ⟨Nat.le_of_ble_eq_true rfl, Nat.le_of_ble_eq_true rfl⟩) hS (fun q _ h => hFc q h) hFc (fun rv u t H1 locs ht hvm hw hB hz1 hk1 hS => ?_)
    obtain ⟨r_2, _, _⟩ := u
    obtain ⟨hP, hK1, hD1⟩ := hB
    rw [ht] at hP
    obtain ⟨hrv, hw⟩ := hw
    subst hrv
    have hD := hD1.weaken (fun k q _ h => hFc q.1 h)
    have hP : va_P D vwCl (mw_w om R C z A) H1 := hP
    have hD : va_D Ad (mw_w om R C z A) := hD
    generalize H1 = H at hP hS ⊢
    refine W.eq (g2 := F0 m 126 ls [.long (hz_l r_2)]) rfl ?_
    refine lv_lstore (lv' := [(8, .long (hz_l r_2)), (0, .ref om), (1, .long (hz_l y1)), (3, .long (hz_l y3)), (5, .int (hz_i x5)), (6, .int (hz_i x6)), (7, .int (hz_i x7))]) hx hb dX12_beginNode_126 hl (by decide) rfl (fun ls hl => ?_)
    refine lv_lload_n hx hb dX12_beginNode_128 rfl (lv_at hl 3 rfl) ?_
    refine lv_lload hx hb dX12_beginNode_129 (lv_at hl 0 rfl) ?_
    obtain ⟨h9n, h9a, h9b, hw⟩ := hw
    refine hz_ldiv hx hb dX12_beginNode_131 h9n h9a h9b ?_
    refine lv_ldc2 hx hb hown (hts (.constantLong RX12 295 (1000000000)) (List.mem_cons_of_mem _ (List.mem_append_left _ (List.mem_append_left _ (List.mem_of_getElem? (i := 6) rfl))))) dX12_beginNode_132 ?_
    refine hz_asl (b := 1000000000) (by decide +kernel) ?_
    obtain ⟨h9a, hw⟩ := hw
    refine hz_lcmp_lt (tgt := 148) hx hb dX12_beginNode_135 dX12_beginNode_136 (by decide) h9a ⟨by decide, by decide⟩ (fun c_3 => ?_) (fun c_3 => ?_)
    · have hw := hw.1 c_3
      refine lv_iload hx hb dX12_beginNode_148 (lv_at hl 5 rfl) ?_
      refine lv_bipush (v := hz_i 91) hx hb dX12_beginNode_150 (by decide +kernel) ?_
      obtain ⟨h9a, hw⟩ := hw
      refine hz_icmp_ne (tgt := 200) hx hb dX12_beginNode_152 (by decide) h9a ⟨by decide, by decide⟩ (fun c_4 => ?_) (fun c_4 => ?_)
      · have hw := hw.1 c_4
        refine lv_aload_n hx hb dX12_beginNode_200 rfl (lv_at hl 1 rfl) ?_
        refine mw_get (v := .ref (R 37)) hx hb hts hin12 hown hK hP 37 (by decide) (hts (.fieldLink RX12 175 "HiddenMovesModel" "openWord" "[I") (List.mem_cons_of_mem _ (List.mem_append_left _ (List.mem_append_left _ (List.mem_of_getElem? (i := 8) rfl))))) (fun _ h9 => h9) rfl dX12_beginNode_201 ?_
        refine lv_aload_n hx hb dX12_beginNode_204 rfl (lv_at hl 1 rfl) ?_
        refine mw_get (v := .int (hz_i (z 45))) hx hb hts hin12 hown hK hP 45 (by decide) (hts (.fieldLink RX12 275 "HiddenMovesModel" "open" "I") (List.mem_cons_of_mem _ (List.mem_append_left _ (List.mem_append_left _ (List.mem_of_getElem? (i := 4) rfl))))) (fun _ h9 => h9) rfl dX12_beginNode_205 ?_
        refine lv_iload hx hb dX12_beginNode_208 (lv_at hl 4 rfl) ?_
        obtain ⟨h9i, hw⟩ := hw
        refine mw_ist (k := 37) (n := 24) (i := z 45) (v := x5) hx hb hK hP hD hS 28 27 rfl rfl (mw_a37 om R C z A) h9i (by decide) dX12_beginNode_210 (fun H locs hP hD hS => ?_)
        obtain ⟨A_5, hA_5⟩ : ∃ y : Nat → Nat → Int, y = hz_s A 37 (z 45) x5 := ⟨_, rfl⟩
        rw [← hA_5] at hP hD
        have hw := hw A_5 hA_5
        refine lv_aload_n hx hb dX12_beginNode_211 rfl (lv_at hl 1 rfl) ?_
        refine mw_get (v := .ref (R 38)) hx hb hts hin12 hown hK hP 38 (by decide) (hts (.fieldLink RX12 178 "HiddenMovesModel" "openKind" "[I") (List.mem_cons_of_mem _ (List.mem_append_left _ (List.mem_append_left _ (List.mem_of_getElem? (i := 9) rfl))))) (fun _ h9 => h9) rfl dX12_beginNode_212 ?_
        refine lv_aload_n hx hb dX12_beginNode_215 rfl (lv_at hl 1 rfl) ?_
        refine mw_get (v := .int (hz_i (z 45))) hx hb hts hin12 hown hK hP 45 (by decide) (hts (.fieldLink RX12 275 "HiddenMovesModel" "open" "I") (List.mem_cons_of_mem _ (List.mem_append_left _ (List.mem_append_left _ (List.mem_of_getElem? (i := 4) rfl))))) (fun _ h9 => h9) rfl dX12_beginNode_216 ?_
        refine lv_iload hx hb dX12_beginNode_219 (lv_at hl 5 rfl) ?_
        obtain ⟨h9i, hw⟩ := hw
        refine mw_ist (k := 38) (n := 24) (i := z 45) (v := x6) hx hb hK hP hD hS 29 28 rfl rfl (mw_a38 om R C z A_5) h9i (by decide) dX12_beginNode_221 (fun H locs hP hD hS => ?_)
        obtain ⟨A_6, hA_6⟩ : ∃ y : Nat → Nat → Int, y = hz_s A_5 38 (z 45) x6 := ⟨_, rfl⟩
        rw [← hA_6] at hP hD
        have hw := hw A_6 hA_6
        refine lv_aload_n hx hb dX12_beginNode_222 rfl (lv_at hl 1 rfl) ?_
        refine mw_get (v := .ref (R 39)) hx hb hts hin12 hown hK hP 39 (by decide) (hts (.fieldLink RX12 181 "HiddenMovesModel" "openSet" "[I") (List.mem_cons_of_mem _ (List.mem_append_left _ (List.mem_append_left _ (List.mem_of_getElem? (i := 10) rfl))))) (fun _ h9 => h9) rfl dX12_beginNode_223 ?_
        refine lv_aload_n hx hb dX12_beginNode_226 rfl (lv_at hl 1 rfl) ?_
        refine mw_get (v := .int (hz_i (z 45))) hx hb hts hin12 hown hK hP 45 (by decide) (hts (.fieldLink RX12 275 "HiddenMovesModel" "open" "I") (List.mem_cons_of_mem _ (List.mem_append_left _ (List.mem_append_left _ (List.mem_of_getElem? (i := 4) rfl))))) (fun _ h9 => h9) rfl dX12_beginNode_227 ?_
        refine lv_iload hx hb dX12_beginNode_230 (lv_at hl 6 rfl) ?_
        obtain ⟨h9i, hw⟩ := hw
        refine mw_ist (k := 39) (n := 24) (i := z 45) (v := x7) hx hb hK hP hD hS 30 29 rfl rfl (mw_a39 om R C z A_6) h9i (by decide) dX12_beginNode_232 (fun H locs hP hD hS => ?_)
        obtain ⟨A_7, hA_7⟩ : ∃ y : Nat → Nat → Int, y = hz_s A_6 39 (z 45) x7 := ⟨_, rfl⟩
        rw [← hA_7] at hP hD
        have hw := hw A_7 hA_7
        refine lv_aload_n hx hb dX12_beginNode_233 rfl (lv_at hl 1 rfl) ?_
        refine mw_get (v := .ref (R 40)) hx hb hts hin12 hown hK hP 40 (by decide) (hts (.fieldLink RX12 184 "HiddenMovesModel" "openMoves" "[I") (List.mem_cons_of_mem _ (List.mem_append_left _ (List.mem_append_left _ (List.mem_of_getElem? (i := 11) rfl))))) (fun _ h9 => h9) rfl dX12_beginNode_234 ?_
        refine lv_aload_n hx hb dX12_beginNode_237 rfl (lv_at hl 1 rfl) ?_
        refine mw_get (v := .int (hz_i (z 45))) hx hb hts hin12 hown hK hP 45 (by decide) (hts (.fieldLink RX12 275 "HiddenMovesModel" "open" "I") (List.mem_cons_of_mem _ (List.mem_append_left _ (List.mem_append_left _ (List.mem_of_getElem? (i := 4) rfl))))) (fun _ h9 => h9) rfl dX12_beginNode_238 ?_
        refine lv_iconst (v := hz_i (-1)) hx hb dX12_beginNode_241 (by decide +kernel) ?_
        obtain ⟨h9i, hw⟩ := hw
        refine mw_ist (k := 40) (n := 24) (i := z 45) (v := (-1)) hx hb hK hP hD hS 31 30 rfl rfl (mw_a40 om R C z A_7) h9i (by decide) dX12_beginNode_242 (fun H locs hP hD hS => ?_)
        obtain ⟨A_8, hA_8⟩ : ∃ y : Nat → Nat → Int, y = hz_s A_7 40 (z 45) (-1) := ⟨_, rfl⟩
        rw [← hA_8] at hP hD
        have hw := hw A_8 hA_8
        refine lv_aload_n hx hb dX12_beginNode_243 rfl (lv_at hl 1 rfl) ?_
        refine mw_get (v := .ref (R 41)) hx hb hts hin12 hown hK hP 41 (by decide) (hts (.fieldLink RX12 187 "HiddenMovesModel" "openTop" "[J") (List.mem_cons_of_mem _ (List.mem_append_left _ (List.mem_append_left _ (List.mem_of_getElem? (i := 12) rfl))))) (fun _ h9 => h9) rfl dX12_beginNode_244 ?_
        refine lv_aload_n hx hb dX12_beginNode_247 rfl (lv_at hl 1 rfl) ?_
        refine mw_get (v := .int (hz_i (z 45))) hx hb hts hin12 hown hK hP 45 (by decide) (hts (.fieldLink RX12 275 "HiddenMovesModel" "open" "I") (List.mem_cons_of_mem _ (List.mem_append_left _ (List.mem_append_left _ (List.mem_of_getElem? (i := 4) rfl))))) (fun _ h9 => h9) rfl dX12_beginNode_248 ?_
        refine lv_lload_n hx hb dX12_beginNode_251 rfl (lv_at hl 2 rfl) ?_
        refine lv_lload hx hb dX12_beginNode_252 (lv_at hl 0 rfl) ?_
        obtain ⟨h9n, h9a, h9b, hw⟩ := hw
        refine hz_ldiv hx hb dX12_beginNode_254 h9n h9a h9b ?_
        obtain ⟨h9i, hw⟩ := hw
        refine mw_lst (k := 41) (n := 24) (i := z 45) (v := y1.tdiv r_2) hx hb hK hP hD hS 32 31 rfl rfl (mw_a41 om R C z A_8) h9i (by decide) dX12_beginNode_255 (fun H locs hP hD hS => ?_)
        obtain ⟨A_9, hA_9⟩ : ∃ y : Nat → Nat → Int, y = hz_s A_8 41 (z 45) (y1.tdiv r_2) := ⟨_, rfl⟩
        rw [← hA_9] at hP hD
        have hw := hw A_9 hA_9
        refine lv_aload_n hx hb dX12_beginNode_256 rfl (lv_at hl 1 rfl) ?_
        refine mw_get (v := .ref (R 42)) hx hb hts hin12 hown hK hP 42 (by decide) (hts (.fieldLink RX12 190 "HiddenMovesModel" "openBottom" "[J") (List.mem_cons_of_mem _ (List.mem_append_left _ (List.mem_append_left _ (List.mem_of_getElem? (i := 13) rfl))))) (fun _ h9 => h9) rfl dX12_beginNode_257 ?_
        refine lv_aload_n hx hb dX12_beginNode_260 rfl (lv_at hl 1 rfl) ?_
        refine mw_get (v := .int (hz_i (z 45))) hx hb hts hin12 hown hK hP 45 (by decide) (hts (.fieldLink RX12 275 "HiddenMovesModel" "open" "I") (List.mem_cons_of_mem _ (List.mem_append_left _ (List.mem_append_left _ (List.mem_of_getElem? (i := 4) rfl))))) (fun _ h9 => h9) rfl dX12_beginNode_261 ?_
        refine lv_lload_n hx hb dX12_beginNode_264 rfl (lv_at hl 3 rfl) ?_
        refine lv_lload hx hb dX12_beginNode_265 (lv_at hl 0 rfl) ?_
        obtain ⟨h9n, h9a, h9b, hw⟩ := hw
        refine hz_ldiv hx hb dX12_beginNode_267 h9n h9a h9b ?_
        obtain ⟨h9i, hw⟩ := hw
        refine mw_lst (k := 42) (n := 24) (i := z 45) (v := y3.tdiv r_2) hx hb hK hP hD hS 33 32 rfl rfl (mw_a42 om R C z A_9) h9i (by decide) dX12_beginNode_268 (fun H locs hP hD hS => ?_)
        obtain ⟨A_10, hA_10⟩ : ∃ y : Nat → Nat → Int, y = hz_s A_9 42 (z 45) (y3.tdiv r_2) := ⟨_, rfl⟩
        rw [← hA_10] at hP hD
        have hw := hw A_10 hA_10
        refine lv_iload hx hb dX12_beginNode_269 (lv_at hl 5 rfl) ?_
        refine lv_bipush (v := hz_i 63) hx hb dX12_beginNode_271 (by decide +kernel) ?_
        obtain ⟨h9a, hw⟩ := hw
        refine hz_icmp_ne (tgt := 302) hx hb dX12_beginNode_273 (by decide) h9a ⟨by decide, by decide⟩ (fun c_11 => ?_) (fun c_11 => ?_)
        · have hw := hw.1 c_11
          refine lv_aload_n hx hb dX12_beginNode_302 rfl (lv_at hl 1 rfl) ?_
          refine mw_get (v := .ref (R 16)) hx hb hts hin12 hown hK hP 16 (by decide) (hts (.fieldLink RX12 123 "HiddenMovesModel" "choices" "[I") (List.mem_cons_of_mem _ (List.mem_append_left _ (List.mem_append_left _ (List.mem_of_getElem? (i := 15) rfl))))) (fun _ h9 => h9) rfl dX12_beginNode_303 ?_
          refine lv_aload_n hx hb dX12_beginNode_306 rfl (lv_at hl 1 rfl) ?_
          refine mw_get (v := .int (hz_i (z 33))) hx hb hts hin12 hown hK hP 33 (by decide) (hts (.fieldLink RX12 172 "HiddenMovesModel" "draft" "I") (List.mem_cons_of_mem _ (List.mem_append_left _ (List.mem_append_left _ (List.mem_of_getElem? (i := 3) rfl))))) (fun _ h9 => h9) rfl dX12_beginNode_307 ?_
          refine lv_dup2_11 hx hb dX12_beginNode_310 rfl rfl ?_
          obtain ⟨h9i, hw⟩ := hw
          refine mw_ild (k := 16) (n := 2) (i := z 33) hx hb hK hP 12 11 rfl rfl h9i (by decide) dX12_beginNode_311 ?_
          refine lv_iconst (v := hz_i 1) hx hb dX12_beginNode_312 (by decide +kernel) ?_
          refine hz_iadd hx hb dX12_beginNode_313 ?_
          obtain ⟨h9i, hw⟩ := hw
          refine mw_ist (k := 16) (n := 2) (i := z 33) (v := (A_10 16 ((z 33).toNat)) + 1) hx hb hK hP hD hS 12 11 rfl rfl (mw_a16 om R C z A_10) h9i (by decide) dX12_beginNode_314 (fun H locs hP hD hS => ?_)
          obtain ⟨A_12, hA_12⟩ : ∃ y : Nat → Nat → Int, y = hz_s A_10 16 (z 33) ((A_10 16 ((z 33).toNat)) + 1) := ⟨_, rfl⟩
          rw [← hA_12] at hP hD
          have hw := hw A_12 hA_12
          refine lv_aload_n hx hb dX12_beginNode_315 rfl (lv_at hl 1 rfl) ?_
          refine lv_iload hx hb dX12_beginNode_316 (lv_at hl 6 rfl) ?_
          refine lv_iload hx hb dX12_beginNode_318 (lv_at hl 4 rfl) ?_
          have hFc := mw_free hD hS hA
          refine va_callv (va_runV (As := [.int (hz_i x7), .int (hz_i x5)]) (rest := []) ⟨hx, hb, hml, hown, hts⟩ (k_recall l D _ om R C z A_12 x7 x5 _ hw) (cwV 2 hts gX12_beginNode_X12_recall rfl rfl rfl (by decide +kernel) ⟨Nat.le_of_ble_eq_true rfl, Nat.le_of_ble_eq_true rfl⟩) ⟨hm_blind, va_recv hK hP (ci := 12) (q0 := 0) rfl rfl, hm_pre hP hK hD hE⟩ rfl rfl hl.1 rfl (lv_room (Nat.le_of_ble_eq_true rfl)) dX12_beginNode_320 ⟨Nat.le_of_ble_eq_true rfl, Nat.le_of_ble_eq_true rfl⟩) hS (fun q _ h => hFc q h) hFc (fun u t H1 locs ht hvm hw hB hz1 hk1 hS => ?_)
          obtain ⟨r_13, z_14, A_15⟩ := u
          obtain ⟨hP, hK1, hD1⟩ := hB
          rw [ht] at hP
          have hD := hD1.weaken (fun k q _ h => hFc q.1 h)
          have hP : va_P D vwCl (mw_w om R C z_14 A_15) H1 := hP
          have hD : va_D Ad (mw_w om R C z_14 A_15) := hD
          generalize H1 = H at hP hS ⊢
          refine W.eq (g2 := F0 m 323 ls []) rfl ?_
          refine lv_aload_n hx hb dX12_beginNode_323 rfl (lv_at hl 1 rfl) ?_
          refine lv_aload_n hx hb dX12_beginNode_324 rfl (lv_at hl 1 rfl) ?_
          refine mw_get (v := .int (hz_i (z_14 46))) hx hb hts hin12 hown hK hP 46 (by decide) (hts (.fieldLink RX12 262 "HiddenMovesModel" "at" "I") (List.mem_cons_of_mem _ (List.mem_append_left _ (List.mem_append_left _ (List.mem_of_getElem? (i := 0) rfl))))) (fun _ h9 => h9) rfl dX12_beginNode_325 ?_
          refine lv_iconst (v := hz_i 3) hx hb dX12_beginNode_328 (by decide +kernel) ?_
          refine hz_iadd hx hb dX12_beginNode_329 ?_
          refine mw_put (ty := .int) (v := .int (hz_i ((z_14 46) + 3))) hx hb hts hin12 hown hK hP hD hS 46 (by decide) (hts (.fieldLink RX12 262 "HiddenMovesModel" "at" "I") (List.mem_cons_of_mem _ (List.mem_append_left _ (List.mem_append_left _ (List.mem_of_getElem? (i := 0) rfl))))) (fun _ h9 => h9) rfl (by decide +kernel) rfl rfl (mw_s46 R z_14 ((z_14 46) + 3)) dX12_beginNode_330 (fun H locs hP hD hS => ?_)
          obtain ⟨z_16, hz_16⟩ : ∃ y : Nat → Int, y = lp_U z_14 46 ((z_14 46) + 3) := ⟨_, rfl⟩
          rw [← hz_16] at hP hD
          have hw := hw z_16 hz_16
          exact L333 z_16 A_15 hw H locs ls hP hD hS (lv_sub hl [1] rfl)
        · have hw := hw.2 c_11
          refine lv_aload_n hx hb dX12_beginNode_276 rfl (lv_at hl 1 rfl) ?_
          refine mw_get (v := .ref (R 15)) hx hb hts hin12 hown hK hP 15 (by decide) (hts (.fieldLink RX12 120 "HiddenMovesModel" "draws" "[I") (List.mem_cons_of_mem _ (List.mem_append_left _ (List.mem_append_left _ (List.mem_of_getElem? (i := 14) rfl))))) (fun _ h9 => h9) rfl dX12_beginNode_277 ?_
          refine lv_aload_n hx hb dX12_beginNode_280 rfl (lv_at hl 1 rfl) ?_
          refine mw_get (v := .int (hz_i (z 33))) hx hb hts hin12 hown hK hP 33 (by decide) (hts (.fieldLink RX12 172 "HiddenMovesModel" "draft" "I") (List.mem_cons_of_mem _ (List.mem_append_left _ (List.mem_append_left _ (List.mem_of_getElem? (i := 3) rfl))))) (fun _ h9 => h9) rfl dX12_beginNode_281 ?_
          refine lv_dup2_11 hx hb dX12_beginNode_284 rfl rfl ?_
          obtain ⟨h9i, hw⟩ := hw
          refine mw_ild (k := 15) (n := 2) (i := z 33) hx hb hK hP 11 10 rfl rfl h9i (by decide) dX12_beginNode_285 ?_
          refine lv_iconst (v := hz_i 1) hx hb dX12_beginNode_286 (by decide +kernel) ?_
          refine hz_iadd hx hb dX12_beginNode_287 ?_
          obtain ⟨h9i, hw⟩ := hw
          refine mw_ist (k := 15) (n := 2) (i := z 33) (v := (A_10 15 ((z 33).toNat)) + 1) hx hb hK hP hD hS 11 10 rfl rfl (mw_a15 om R C z A_10) h9i (by decide) dX12_beginNode_288 (fun H locs hP hD hS => ?_)
          obtain ⟨A_17, hA_17⟩ : ∃ y : Nat → Nat → Int, y = hz_s A_10 15 (z 33) ((A_10 15 ((z 33).toNat)) + 1) := ⟨_, rfl⟩
          rw [← hA_17] at hP hD
          have hw := hw A_17 hA_17
          refine lv_aload_n hx hb dX12_beginNode_289 rfl (lv_at hl 1 rfl) ?_
          refine lv_aload_n hx hb dX12_beginNode_290 rfl (lv_at hl 1 rfl) ?_
          refine mw_get (v := .int (hz_i (z 46))) hx hb hts hin12 hown hK hP 46 (by decide) (hts (.fieldLink RX12 262 "HiddenMovesModel" "at" "I") (List.mem_cons_of_mem _ (List.mem_append_left _ (List.mem_append_left _ (List.mem_of_getElem? (i := 0) rfl))))) (fun _ h9 => h9) rfl dX12_beginNode_291 ?_
          refine lv_iconst (v := hz_i 2) hx hb dX12_beginNode_294 (by decide +kernel) ?_
          refine hz_iadd hx hb dX12_beginNode_295 ?_
          refine mw_put (ty := .int) (v := .int (hz_i ((z 46) + 2))) hx hb hts hin12 hown hK hP hD hS 46 (by decide) (hts (.fieldLink RX12 262 "HiddenMovesModel" "at" "I") (List.mem_cons_of_mem _ (List.mem_append_left _ (List.mem_append_left _ (List.mem_of_getElem? (i := 0) rfl))))) (fun _ h9 => h9) rfl (by decide +kernel) rfl rfl (mw_s46 R z ((z 46) + 2)) dX12_beginNode_296 (fun H locs hP hD hS => ?_)
          obtain ⟨z_18, hz_18⟩ : ∃ y : Nat → Int, y = lp_U z 46 ((z 46) + 2) := ⟨_, rfl⟩
          rw [← hz_18] at hP hD
          have hw := hw z_18 hz_18
          refine lv_goto (tgt := 333) hx hb dX12_beginNode_299 (by decide) ?_
          exact L333 z_18 A_17 hw H locs ls hP hD hS (lv_sub hl [1] rfl)
      · have hw := hw.2 c_4
        refine lv_aload_n hx hb dX12_beginNode_155 rfl (lv_at hl 1 rfl) ?_
        refine lv_dup hx hb dX12_beginNode_156 rfl ?_
        refine mw_get (v := .int (hz_i (z 46))) hx hb hts hin12 hown hK hP 46 (by decide) (hts (.fieldLink RX12 262 "HiddenMovesModel" "at" "I") (List.mem_cons_of_mem _ (List.mem_append_left _ (List.mem_append_left _ (List.mem_of_getElem? (i := 0) rfl))))) (fun _ h9 => h9) rfl dX12_beginNode_157 ?_
        refine lv_iconst (v := hz_i 1) hx hb dX12_beginNode_160 (by decide +kernel) ?_
        refine hz_iadd hx hb dX12_beginNode_161 ?_
        refine mw_put (ty := .int) (v := .int (hz_i ((z 46) + 1))) hx hb hts hin12 hown hK hP hD hS 46 (by decide) (hts (.fieldLink RX12 262 "HiddenMovesModel" "at" "I") (List.mem_cons_of_mem _ (List.mem_append_left _ (List.mem_append_left _ (List.mem_of_getElem? (i := 0) rfl))))) (fun _ h9 => h9) rfl (by decide +kernel) rfl rfl (mw_s46 R z ((z 46) + 1)) dX12_beginNode_162 (fun H locs hP hD hS => ?_)
        obtain ⟨z_19, hz_19⟩ : ∃ y : Nat → Int, y = lp_U z 46 ((z 46) + 1) := ⟨_, rfl⟩
        rw [← hz_19] at hP hD
        have hw := hw z_19 hz_19
        refine lv_aload_n hx hb dX12_beginNode_165 rfl (lv_at hl 1 rfl) ?_
        refine lv_iconst (v := hz_i 0) hx hb dX12_beginNode_166 (by decide +kernel) ?_
        have hFc := mw_free hD hS hA
        refine va_callv (va_runV (As := [.int (hz_i 0)]) (rest := []) ⟨hx, hb, hml, hown, hts⟩ (k_fraction l D _ om R C z_19 A 0 _ hw) (cwV 1 hts gX12_beginNode_X12_fraction rfl rfl rfl (by decide +kernel) ⟨Nat.le_of_ble_eq_true rfl, Nat.le_of_ble_eq_true rfl⟩) ⟨hm_blind, va_recv hK hP (ci := 12) (q0 := 0) rfl rfl, hm_pre hP hK hD hE⟩ rfl rfl hl.1 rfl (lv_room (Nat.le_of_ble_eq_true rfl)) dX12_beginNode_167 ⟨Nat.le_of_ble_eq_true rfl, Nat.le_of_ble_eq_true rfl⟩) hS (fun q _ h => hFc q h) hFc (fun u t H1 locs ht hvm hw hB hz1 hk1 hS => ?_)
        obtain ⟨r_20, z_21, _⟩ := u
        obtain ⟨hP, hK1, hD1⟩ := hB
        rw [ht] at hP
        have hD := hD1.weaken (fun k q _ h => hFc q.1 h)
        have hP : va_P D vwCl (mw_w om R C z_21 A) H1 := hP
        have hD : va_D Ad (mw_w om R C z_21 A) := hD
        generalize H1 = H at hP hS ⊢
        refine W.eq (g2 := F0 m 170 ls []) rfl ?_
        refine lv_aload_n hx hb dX12_beginNode_170 rfl (lv_at hl 1 rfl) ?_
        refine mw_get (v := .int (hz_i (z_21 35))) hx hb hts hin12 hown hK hP 35 (by decide) (hts (.fieldLink RX12 256 "HiddenMovesModel" "fault" "I") (List.mem_cons_of_mem _ (List.mem_append_left _ (List.mem_append_left _ (List.mem_of_getElem? (i := 7) rfl))))) (fun _ h9 => h9) rfl dX12_beginNode_171 ?_
        obtain ⟨h9a, hw⟩ := hw
        refine hz_if_ne (tgt := 199) hx hb dX12_beginNode_174 (by decide) h9a (fun c_22 => ?_) (fun c_22 => ?_)
        · have hw := hw.1 c_22
          exact L199 z_21 A hw H locs ls hP hD hS (lv_sub hl [1] rfl)
        · have hw := hw.2 c_22
          refine lv_aload_n hx hb dX12_beginNode_177 rfl (lv_at hl 1 rfl) ?_
          refine lv_lload_n hx hb dX12_beginNode_178 rfl (lv_at hl 2 rfl) ?_
          refine lv_lload hx hb dX12_beginNode_179 (lv_at hl 0 rfl) ?_
          obtain ⟨h9n, h9a, h9b, hw⟩ := hw
          refine hz_ldiv hx hb dX12_beginNode_181 h9n h9a h9b ?_
          refine lv_lload_n hx hb dX12_beginNode_182 rfl (lv_at hl 3 rfl) ?_
          refine lv_lload hx hb dX12_beginNode_183 (lv_at hl 0 rfl) ?_
          obtain ⟨h9n, h9a, h9b, hw⟩ := hw
          refine hz_ldiv hx hb dX12_beginNode_185 h9n h9a h9b ?_
          have hFc := mw_free hD hS hA
          refine va_callv (va_runV (As := [.long (hz_l (y1.tdiv r_2)), .long (hz_l (y3.tdiv r_2))]) (rest := []) ⟨hx, hb, hml, hown, hts⟩ (k_end l D _ om R C z_21 A (y1.tdiv r_2) (y3.tdiv r_2) _ hw) (cwV 2 hts gX12_beginNode_X12_end rfl rfl rfl (by decide +kernel) ⟨Nat.le_of_ble_eq_true rfl, Nat.le_of_ble_eq_true rfl⟩) ⟨hm_blind, va_recv hK hP (ci := 12) (q0 := 0) rfl rfl, hm_pre hP hK hD hE⟩ rfl rfl hl.1 rfl (lv_room (Nat.le_of_ble_eq_true rfl)) dX12_beginNode_186 ⟨Nat.le_of_ble_eq_true rfl, Nat.le_of_ble_eq_true rfl⟩) hS (fun q _ h => hFc q h) hFc (fun u t H1 locs ht hvm hw hB hz1 hk1 hS => ?_)
          obtain ⟨r_23, _, A_24⟩ := u
          obtain ⟨hP, hK1, hD1⟩ := hB
          rw [ht] at hP
          have hD := hD1.weaken (fun k q _ h => hFc q.1 h)
          have hP : va_P D vwCl (mw_w om R C z_21 A_24) H1 := hP
          have hD : va_D Ad (mw_w om R C z_21 A_24) := hD
          generalize H1 = H at hP hS ⊢
          refine W.eq (g2 := F0 m 189 ls []) rfl ?_
          refine lv_aload_n hx hb dX12_beginNode_189 rfl (lv_at hl 1 rfl) ?_
          refine lv_dup hx hb dX12_beginNode_190 rfl ?_
          refine mw_get (v := .int (hz_i (z_21 46))) hx hb hts hin12 hown hK hP 46 (by decide) (hts (.fieldLink RX12 262 "HiddenMovesModel" "at" "I") (List.mem_cons_of_mem _ (List.mem_append_left _ (List.mem_append_left _ (List.mem_of_getElem? (i := 0) rfl))))) (fun _ h9 => h9) rfl dX12_beginNode_191 ?_
          refine lv_iconst (v := hz_i 1) hx hb dX12_beginNode_194 (by decide +kernel) ?_
          refine hz_iadd hx hb dX12_beginNode_195 ?_
          refine mw_put (ty := .int) (v := .int (hz_i ((z_21 46) + 1))) hx hb hts hin12 hown hK hP hD hS 46 (by decide) (hts (.fieldLink RX12 262 "HiddenMovesModel" "at" "I") (List.mem_cons_of_mem _ (List.mem_append_left _ (List.mem_append_left _ (List.mem_of_getElem? (i := 0) rfl))))) (fun _ h9 => h9) rfl (by decide +kernel) rfl rfl (mw_s46 R z_21 ((z_21 46) + 1)) dX12_beginNode_196 (fun H locs hP hD hS => ?_)
          obtain ⟨z_25, hz_25⟩ : ∃ y : Nat → Int, y = lp_U z_21 46 ((z_21 46) + 1) := ⟨_, rfl⟩
          rw [← hz_25] at hP hD
          have hw := hw z_25 hz_25
          exact L199 z_25 A_24 hw H locs ls hP hD hS (lv_sub hl [1] rfl)
    · have hw := hw.2 c_3
      refine lv_aload_n hx hb dX12_beginNode_139 rfl (lv_at hl 1 rfl) ?_
      refine lv_bipush (v := hz_i 6) hx hb dX12_beginNode_140 (by decide +kernel) ?_
      refine lv_iload hx hb dX12_beginNode_142 (lv_at hl 4 rfl) ?_
      have hFc := mw_free hD hS hA
      refine va_callv (va_runV (As := [.int (hz_i 6), .int (hz_i x5)]) (rest := []) ⟨hx, hb, hml, hown, hts⟩ (k_stop l D _ om R C z A 6 x5 _ hw) (cwV 2 hts gX12_beginNode_X12_stop rfl rfl rfl (by decide +kernel) ⟨Nat.le_of_ble_eq_true rfl, Nat.le_of_ble_eq_true rfl⟩) ⟨hm_blind, va_recv hK hP (ci := 12) (q0 := 0) rfl rfl, hm_pre hP hK hD hE⟩ rfl rfl hl.1 rfl (lv_room (Nat.le_of_ble_eq_true rfl)) dX12_beginNode_144 ⟨Nat.le_of_ble_eq_true rfl, Nat.le_of_ble_eq_true rfl⟩) hS (fun q _ h => hFc q h) hFc (fun u t H1 locs ht hvm hw hB hz1 hk1 hS => ?_)
      obtain ⟨r_26, z_27, _⟩ := u
      obtain ⟨hP, hK1, hD1⟩ := hB
      rw [ht] at hP
      have hD := hD1.weaken (fun k q _ h => hFc q.1 h)
      have hP : va_P D vwCl (mw_w om R C z_27 A) H1 := hP
      have hD : va_D Ad (mw_w om R C z_27 A) := hD
      generalize H1 = H at hP hS ⊢
      refine W.eq (g2 := F0 m 147 ls []) rfl ?_
      subst hQQ
      subst hAe
      exact W.vret hx hb hr (fun t ht hW => ⟨⟨(0, z_27, A), rfl, hw, by rw [ht]; exact hP, va_K.moved hW.alike hK, hD⟩, hS.F ht⟩) hS.2.2 dX12_beginNode_147
  have L92 : ∀ (z : Nat → Int) (A : Nat → Nat → Int) (x5 : Int) (x6 : Int) (t0 : Int), wp_beginNode_92 z A y1 y3 x5 x6 t0  Q → ∀ (H : Heap) (locs : List Loc) (ls : Array Slot), va_P D vwCl (mw_w om R C z A) H → va_D Ad (mw_w om R C z A) → va_S Ad s.heap H locs → lv_has ls 10 [(0, .ref om), (1, .long (hz_l y1)), (3, .long (hz_l y3)), (5, .int (hz_i x5)), (6, .int (hz_i x6))] → W p l e (headSpec wsX12_beginNode ({ frames := 2, cells := 0, slots := 0, locals := 61 } : Room)).room s m (List.toArray [.ref om, .long (hz_l y1), .long (hz_l y3)]) below meth c H locs 0 0 QQ (F0 m 92 ls [.int (hz_i t0), .ref om]) := by
    intro z A x5 x6 t0 hw H locs ls hP hD hS hl
    refine lv_aload_n hx hb dX12_beginNode_92 rfl (lv_at hl 0 rfl) ?_
    refine mw_get (v := .ref (R 9)) hx hb hts hin12 hown hK hP 9 (by decide) (hts (.fieldLink RX12 108 "HiddenMovesModel" "numbers" "[I") (List.mem_cons_of_mem _ (List.mem_append_left _ (List.mem_append_left _ (List.mem_of_getElem? (i := 5) rfl))))) (fun _ h9 => h9) rfl dX12_beginNode_93 ?_
    refine lv_aload_n hx hb dX12_beginNode_96 rfl (lv_at hl 0 rfl) ?_
    refine mw_get (v := .int (hz_i (z 46))) hx hb hts hin12 hown hK hP 46 (by decide) (hts (.fieldLink RX12 262 "HiddenMovesModel" "at" "I") (List.mem_cons_of_mem _ (List.mem_append_left _ (List.mem_append_left _ (List.mem_of_getElem? (i := 0) rfl))))) (fun _ h9 => h9) rfl dX12_beginNode_97 ?_
    refine lv_iconst (v := hz_i 1) hx hb dX12_beginNode_100 (by decide +kernel) ?_
    refine hz_iadd hx hb dX12_beginNode_101 ?_
    obtain ⟨h9i, hw⟩ := hw
    refine mw_ild (k := 9) (n := 4001) (i := (z 46) + 1) hx hb hK hP 7 6 rfl rfl h9i (by decide) dX12_beginNode_102 ?_
    have hFc := mw_free hD hS hA
    refine va_calli (va_runV (As := [.int (hz_i t0), .int (hz_i (A 9 (((z 46) + 1).toNat)))]) (rest := []) ⟨hx, hb, hml, hown, hts⟩ (k_findSet l D _ om R C z A t0 (A 9 (((z 46) + 1).toNat)) _ hw) (cwV 2 hts gX12_beginNode_X12_findSet rfl rfl rfl (by decide +kernel) ⟨Nat.le_of_ble_eq_true rfl, Nat.le_of_ble_eq_true rfl⟩) ⟨hm_blind, va_recv hK hP (ci := 12) (q0 := 0) rfl rfl, hm_pre hP hK hD hE⟩ rfl rfl hl.1 rfl (lv_room (Nat.le_of_ble_eq_true rfl)) dX12_beginNode_103 ⟨Nat.le_of_ble_eq_true rfl, Nat.le_of_ble_eq_true rfl⟩) hS (fun q _ h => hFc q h) hFc (fun rv u t H1 locs ht hvm hw hB hz1 hk1 hS => ?_)
    obtain ⟨r_28, _, A_29⟩ := u
    obtain ⟨hP, hK1, hD1⟩ := hB
    rw [ht] at hP
    obtain ⟨hrv, hw⟩ := hw
    subst hrv
    have hD := hD1.weaken (fun k q _ h => hFc q.1 h)
    have hP : va_P D vwCl (mw_w om R C z A_29) H1 := hP
    have hD : va_D Ad (mw_w om R C z A_29) := hD
    generalize H1 = H at hP hS ⊢
    refine W.eq (g2 := F0 m 106 ls [.int (hz_i r_28)]) rfl ?_
    refine lv_istore (lv' := [(7, .int (hz_i r_28)), (0, .ref om), (1, .long (hz_l y1)), (3, .long (hz_l y3)), (5, .int (hz_i x5)), (6, .int (hz_i x6))]) hx hb dX12_beginNode_106 hl (by decide) rfl (fun ls hl => ?_)
    refine lv_iload hx hb dX12_beginNode_108 (lv_at hl 0 rfl) ?_
    obtain ⟨h9a, hw⟩ := hw
    refine hz_if_ge (tgt := 121) hx hb dX12_beginNode_110 (by decide) h9a (fun c_30 => ?_) (fun c_30 => ?_)
    · have hw := hw.1 c_30
      exact L121 z A_29 x5 x6 r_28 hw H locs ls hP hD hS (lv_sub hl [1, 2, 3, 4, 5, 0] rfl)
    · have hw := hw.2 c_30
      refine lv_aload_n hx hb dX12_beginNode_113 rfl (lv_at hl 1 rfl) ?_
      refine lv_iconst (v := hz_i 2) hx hb dX12_beginNode_114 (by decide +kernel) ?_
      refine lv_iload hx hb dX12_beginNode_115 (lv_at hl 4 rfl) ?_
      have hFc := mw_free hD hS hA
      refine va_callv (va_runV (As := [.int (hz_i 2), .int (hz_i x5)]) (rest := []) ⟨hx, hb, hml, hown, hts⟩ (k_stop l D _ om R C z A_29 2 x5 _ hw) (cwV 2 hts gX12_beginNode_X12_stop rfl rfl rfl (by decide +kernel) ⟨Nat.le_of_ble_eq_true rfl, Nat.le_of_ble_eq_true rfl⟩) ⟨hm_blind, va_recv hK hP (ci := 12) (q0 := 0) rfl rfl, hm_pre hP hK hD hE⟩ rfl rfl hl.1 rfl (lv_room (Nat.le_of_ble_eq_true rfl)) dX12_beginNode_117 ⟨Nat.le_of_ble_eq_true rfl, Nat.le_of_ble_eq_true rfl⟩) hS (fun q _ h => hFc q h) hFc (fun u t H1 locs ht hvm hw hB hz1 hk1 hS => ?_)
      obtain ⟨r_31, z_32, _⟩ := u
      obtain ⟨hP, hK1, hD1⟩ := hB
      rw [ht] at hP
      have hD := hD1.weaken (fun k q _ h => hFc q.1 h)
      have hP : va_P D vwCl (mw_w om R C z_32 A_29) H1 := hP
      have hD : va_D Ad (mw_w om R C z_32 A_29) := hD
      generalize H1 = H at hP hS ⊢
      refine W.eq (g2 := F0 m 120 ls []) rfl ?_
      subst hQQ
      subst hAe
      exact W.vret hx hb hr (fun t ht hW => ⟨⟨(0, z_32, A_29), rfl, hw, by rw [ht]; exact hP, va_K.moved hW.alike hK, hD⟩, hS.F ht⟩) hS.2.2 dX12_beginNode_120
  have L79 : ∀ (z : Nat → Int) (A : Nat → Nat → Int) (x5 : Int) (x6 : Int), wp_beginNode_79 z A y1 y3 x5 x6  Q → ∀ (H : Heap) (locs : List Loc) (ls : Array Slot), va_P D vwCl (mw_w om R C z A) H → va_D Ad (mw_w om R C z A) → va_S Ad s.heap H locs → lv_has ls 10 [(0, .ref om), (1, .long (hz_l y1)), (3, .long (hz_l y3)), (5, .int (hz_i x5)), (6, .int (hz_i x6))] → W p l e (headSpec wsX12_beginNode ({ frames := 2, cells := 0, slots := 0, locals := 61 } : Room)).room s m (List.toArray [.ref om, .long (hz_l y1), .long (hz_l y3)]) below meth c H locs 0 0 QQ (F0 m 79 ls []) := by
    intro z A x5 x6 hw H locs ls hP hD hS hl
    refine lv_aload_n hx hb dX12_beginNode_79 rfl (lv_at hl 0 rfl) ?_
    refine lv_iload hx hb dX12_beginNode_80 (lv_at hl 4 rfl) ?_
    refine lv_bipush (v := hz_i 65) hx hb dX12_beginNode_82 (by decide +kernel) ?_
    obtain ⟨h9a, hw⟩ := hw
    refine hz_icmp_ne (tgt := 91) hx hb dX12_beginNode_84 (by decide) h9a ⟨by decide, by decide⟩ (fun c_33 => ?_) (fun c_33 => ?_)
    · have hw := hw.1 c_33
      refine lv_iconst (v := hz_i 1) hx hb dX12_beginNode_91 (by decide +kernel) ?_
      exact L92 z A x5 x6 1 hw H locs ls hP hD hS (lv_sub hl [0, 1, 2, 3, 4] rfl)
    · have hw := hw.2 c_33
      refine lv_iconst (v := hz_i 0) hx hb dX12_beginNode_87 (by decide +kernel) ?_
      refine lv_goto (tgt := 92) hx hb dX12_beginNode_88 (by decide) ?_
      exact L92 z A x5 x6 0 hw H locs ls hP hD hS (lv_sub hl [0, 1, 2, 3, 4] rfl)
  have L54 : ∀ (z : Nat → Int) (A : Nat → Nat → Int) (x5 : Int), wp_beginNode_54 z A x5  Q → ∀ (H : Heap) (locs : List Loc) (ls : Array Slot), va_P D vwCl (mw_w om R C z A) H → va_D Ad (mw_w om R C z A) → va_S Ad s.heap H locs → lv_has ls 10 [(0, .ref om), (5, .int (hz_i x5))] → W p l e (headSpec wsX12_beginNode ({ frames := 2, cells := 0, slots := 0, locals := 61 } : Room)).room s m (List.toArray [.ref om, .long (hz_l y1), .long (hz_l y3)]) below meth c H locs 0 0 QQ (F0 m 54 ls []) := by
    intro z A x5 hw H locs ls hP hD hS hl
    refine lv_aload_n hx hb dX12_beginNode_54 rfl (lv_at hl 0 rfl) ?_
    refine lv_iconst (v := hz_i 2) hx hb dX12_beginNode_55 (by decide +kernel) ?_
    refine lv_iload hx hb dX12_beginNode_56 (lv_at hl 1 rfl) ?_
    have hFc := mw_free hD hS hA
    refine va_callv (va_runV (As := [.int (hz_i 2), .int (hz_i x5)]) (rest := []) ⟨hx, hb, hml, hown, hts⟩ (k_stop l D _ om R C z A 2 x5 _ hw) (cwV 2 hts gX12_beginNode_X12_stop rfl rfl rfl (by decide +kernel) ⟨Nat.le_of_ble_eq_true rfl, Nat.le_of_ble_eq_true rfl⟩) ⟨hm_blind, va_recv hK hP (ci := 12) (q0 := 0) rfl rfl, hm_pre hP hK hD hE⟩ rfl rfl hl.1 rfl (lv_room (Nat.le_of_ble_eq_true rfl)) dX12_beginNode_58 ⟨Nat.le_of_ble_eq_true rfl, Nat.le_of_ble_eq_true rfl⟩) hS (fun q _ h => hFc q h) hFc (fun u t H1 locs ht hvm hw hB hz1 hk1 hS => ?_)
    obtain ⟨r_34, z_35, _⟩ := u
    obtain ⟨hP, hK1, hD1⟩ := hB
    rw [ht] at hP
    have hD := hD1.weaken (fun k q _ h => hFc q.1 h)
    have hP : va_P D vwCl (mw_w om R C z_35 A) H1 := hP
    have hD : va_D Ad (mw_w om R C z_35 A) := hD
    generalize H1 = H at hP hS ⊢
    refine W.eq (g2 := F0 m 61 ls []) rfl ?_
    subst hQQ
    subst hAe
    exact W.vret hx hb hr (fun t ht hW => ⟨⟨(0, z_35, A), rfl, hw, by rw [ht]; exact hP, va_K.moved hW.alike hK, hD⟩, hS.F ht⟩) hS.2.2 dX12_beginNode_61
  have hP := hP0; have hD := hD0; have hS := hS0; have hl := hl0; have hw := hw0
  obtain ⟨H, hH⟩ : ∃ H : Heap, H = s.heap := ⟨_, rfl⟩
  obtain ⟨locs, hlocs⟩ : ∃ L : List Loc, L = [] := ⟨_, rfl⟩
  rw [← hH] at hP
  have hS : va_S Ad s.heap H locs := by rw [hH, hlocs]; exact hS
  refine mw_HL hH hlocs ?_
  refine lv_aload_n hx hb dX12_beginNode_0 rfl (lv_at hl 0 rfl) ?_
  refine mw_get (v := .int (hz_i (z 46))) hx hb hts hin12 hown hK hP 46 (by decide) (hts (.fieldLink RX12 262 "HiddenMovesModel" "at" "I") (List.mem_cons_of_mem _ (List.mem_append_left _ (List.mem_append_left _ (List.mem_of_getElem? (i := 0) rfl))))) (fun _ h9 => h9) rfl dX12_beginNode_1 ?_
  refine hz_topi (fun x5_36 hx5_36 => ?_)
  have hw := hw x5_36 hx5_36
  refine lv_istore (lv' := [(5, .int (hz_i x5_36)), (0, .ref om), (1, .long (hz_l y1)), (3, .long (hz_l y3))]) hx hb dX12_beginNode_4 hl (by decide) rfl (fun ls hl => ?_)
  refine lv_aload_n hx hb dX12_beginNode_6 rfl (lv_at hl 1 rfl) ?_
  refine mw_get (v := .ref (R 7)) hx hb hts hin12 hown hK hP 7 (by decide) (hts (.fieldLink RX12 102 "HiddenMovesModel" "kinds" "[I") (List.mem_cons_of_mem _ (List.mem_append_left _ (List.mem_append_left _ (List.mem_of_getElem? (i := 1) rfl))))) (fun _ h9 => h9) rfl dX12_beginNode_7 ?_
  refine lv_aload_n hx hb dX12_beginNode_10 rfl (lv_at hl 1 rfl) ?_
  refine mw_get (v := .int (hz_i (z 46))) hx hb hts hin12 hown hK hP 46 (by decide) (hts (.fieldLink RX12 262 "HiddenMovesModel" "at" "I") (List.mem_cons_of_mem _ (List.mem_append_left _ (List.mem_append_left _ (List.mem_of_getElem? (i := 0) rfl))))) (fun _ h9 => h9) rfl dX12_beginNode_11 ?_
  obtain ⟨h9i, hw⟩ := hw
  refine mw_ild (k := 7) (n := 4001) (i := z 46) hx hb hK hP 5 4 rfl rfl h9i (by decide) dX12_beginNode_14 ?_
  refine hz_topi (fun x6_37 hx6_37 => ?_)
  have hw := hw x6_37 hx6_37
  refine lv_istore (lv' := [(6, .int (hz_i x6_37)), (5, .int (hz_i x5_36)), (0, .ref om), (1, .long (hz_l y1)), (3, .long (hz_l y3))]) hx hb dX12_beginNode_15 hl (by decide) rfl (fun ls hl => ?_)
  refine lv_aload_n hx hb dX12_beginNode_17 rfl (lv_at hl 2 rfl) ?_
  refine mw_get (v := .ref (R 13)) hx hb hts hin12 hown hK hP 13 (by decide) (hts (.fieldLink RX12 114 "HiddenMovesModel" "nodes" "[I") (List.mem_cons_of_mem _ (List.mem_append_left _ (List.mem_append_left _ (List.mem_of_getElem? (i := 2) rfl))))) (fun _ h9 => h9) rfl dX12_beginNode_18 ?_
  refine lv_aload_n hx hb dX12_beginNode_21 rfl (lv_at hl 2 rfl) ?_
  refine mw_get (v := .int (hz_i (z 33))) hx hb hts hin12 hown hK hP 33 (by decide) (hts (.fieldLink RX12 172 "HiddenMovesModel" "draft" "I") (List.mem_cons_of_mem _ (List.mem_append_left _ (List.mem_append_left _ (List.mem_of_getElem? (i := 3) rfl))))) (fun _ h9 => h9) rfl dX12_beginNode_22 ?_
  refine lv_dup2_11 hx hb dX12_beginNode_25 rfl rfl ?_
  obtain ⟨h9i, hw⟩ := hw
  refine mw_ild (k := 13) (n := 2) (i := z 33) hx hb hK hP 9 8 rfl rfl h9i (by decide) dX12_beginNode_26 ?_
  refine lv_iconst (v := hz_i 1) hx hb dX12_beginNode_27 (by decide +kernel) ?_
  refine hz_iadd hx hb dX12_beginNode_28 ?_
  obtain ⟨h9i, hw⟩ := hw
  refine mw_ist (k := 13) (n := 2) (i := z 33) (v := (A 13 ((z 33).toNat)) + 1) hx hb hK hP hD hS 9 8 rfl rfl (mw_a13 om R C z A) h9i (by decide) dX12_beginNode_29 (fun H locs hP hD hS => ?_)
  obtain ⟨A_38, hA_38⟩ : ∃ y : Nat → Nat → Int, y = hz_s A 13 (z 33) ((A 13 ((z 33).toNat)) + 1) := ⟨_, rfl⟩
  rw [← hA_38] at hP hD
  have hw := hw A_38 hA_38
  refine lv_aload_n hx hb dX12_beginNode_30 rfl (lv_at hl 2 rfl) ?_
  refine mw_get (v := .ref (R 13)) hx hb hts hin12 hown hK hP 13 (by decide) (hts (.fieldLink RX12 114 "HiddenMovesModel" "nodes" "[I") (List.mem_cons_of_mem _ (List.mem_append_left _ (List.mem_append_left _ (List.mem_of_getElem? (i := 2) rfl))))) (fun _ h9 => h9) rfl dX12_beginNode_31 ?_
  refine lv_aload_n hx hb dX12_beginNode_34 rfl (lv_at hl 2 rfl) ?_
  refine mw_get (v := .int (hz_i (z 33))) hx hb hts hin12 hown hK hP 33 (by decide) (hts (.fieldLink RX12 172 "HiddenMovesModel" "draft" "I") (List.mem_cons_of_mem _ (List.mem_append_left _ (List.mem_append_left _ (List.mem_of_getElem? (i := 3) rfl))))) (fun _ h9 => h9) rfl dX12_beginNode_35 ?_
  obtain ⟨h9i, hw⟩ := hw
  refine mw_ild (k := 13) (n := 2) (i := z 33) hx hb hK hP 9 8 rfl rfl h9i (by decide) dX12_beginNode_38 ?_
  refine lv_sipush (v := hz_i 400) hx hb dX12_beginNode_39 (by decide +kernel) ?_
  obtain ⟨h9a, hw⟩ := hw
  refine hz_icmp_gt (tgt := 54) hx hb dX12_beginNode_42 (by decide) h9a ⟨by decide, by decide⟩ (fun c_39 => ?_) (fun c_39 => ?_)
  · have hw := hw.1 c_39
    exact L54 z A_38 x5_36 hw H locs ls hP hD hS (lv_sub hl [2, 1] rfl)
  · have hw := hw.2 c_39
    refine lv_aload_n hx hb dX12_beginNode_45 rfl (lv_at hl 2 rfl) ?_
    refine mw_get (v := .int (hz_i (z 45))) hx hb hts hin12 hown hK hP 45 (by decide) (hts (.fieldLink RX12 275 "HiddenMovesModel" "open" "I") (List.mem_cons_of_mem _ (List.mem_append_left _ (List.mem_append_left _ (List.mem_of_getElem? (i := 4) rfl))))) (fun _ h9 => h9) rfl dX12_beginNode_46 ?_
    refine lv_bipush (v := hz_i 20) hx hb dX12_beginNode_49 (by decide +kernel) ?_
    obtain ⟨h9a, hw⟩ := hw
    refine hz_icmp_le (tgt := 62) hx hb dX12_beginNode_51 (by decide) h9a ⟨by decide, by decide⟩ (fun c_40 => ?_) (fun c_40 => ?_)
    · have hw := hw.1 c_40
      refine lv_iconst (v := hz_i (-1)) hx hb dX12_beginNode_62 (by decide +kernel) ?_
      refine lv_istore (lv' := [(7, .int (hz_i (-1))), (6, .int (hz_i x6_37)), (5, .int (hz_i x5_36)), (0, .ref om), (1, .long (hz_l y1)), (3, .long (hz_l y3))]) hx hb dX12_beginNode_63 hl (by decide) rfl (fun ls hl => ?_)
      refine lv_iload hx hb dX12_beginNode_65 (lv_at hl 1 rfl) ?_
      refine lv_bipush (v := hz_i 65) hx hb dX12_beginNode_67 (by decide +kernel) ?_
      obtain ⟨h9a, hw⟩ := hw
      refine hz_icmp_eq (tgt := 79) hx hb dX12_beginNode_69 (by decide) h9a ⟨by decide, by decide⟩ (fun c_41 => ?_) (fun c_41 => ?_)
      · have hw := hw.1 c_41
        exact L79 z A_38 x5_36 x6_37 hw H locs ls hP hD hS (lv_sub hl [3, 4, 5, 2, 1] rfl)
      · have hw := hw.2 c_41
        refine lv_iload hx hb dX12_beginNode_72 (lv_at hl 1 rfl) ?_
        refine lv_bipush (v := hz_i 66) hx hb dX12_beginNode_74 (by decide +kernel) ?_
        obtain ⟨h9a, hw⟩ := hw
        refine hz_icmp_ne (tgt := 121) hx hb dX12_beginNode_76 (by decide) h9a ⟨by decide, by decide⟩ (fun c_42 => ?_) (fun c_42 => ?_)
        · have hw := hw.1 c_42
          exact L121 z A_38 x5_36 x6_37 (-1) hw H locs ls hP hD hS (lv_sub hl [3, 4, 5, 2, 1, 0] rfl)
        · have hw := hw.2 c_42
          exact L79 z A_38 x5_36 x6_37 hw H locs ls hP hD hS (lv_sub hl [3, 4, 5, 2, 1] rfl)
    · have hw := hw.2 c_40
      exact L54 z A_38 x5_36 hw H locs ls hP hD hS (lv_sub hl [2, 1] rfl)

noncomputable def wp_together_142 (z : Nat → Int) (A : Nat → Nat → Int) (Q : (Nat → Int) → Prop) : Prop := Q z
noncomputable def wp_together_85 (z : Nat → Int) (A : Nat → Nat → Int) (y1 : Int) (y2 : Int) (x3 : Int) (x5 : Int) (x7 : Int) (Q : (Nat → Int) → Prop) : Prop := ∀ P85 : Int → Int → Prop, (∀ (x5 : Int) (x7 : Int), hz_rI x7 ∧ hz_rI ((9 * y1) + y2) ∧ (((9 * y1) + y2 ≤ x7 → hz_rL x5 ∧ hz_rL x3 ∧ ((x5 = x3 → wp_together_142 z A  Q) ∧ (¬ (x5 = x3) → (0 ≤ y1 ∧ y1 < 24) ∧ wp_stop z A 3 (A 37 (y1.toNat)) (fun z_4 => wp_together_142 z_4 A  Q)))) ∧ (¬ ((9 * y1) + y2 ≤ x7) → (0 ≤ x7 ∧ x7 < 216) ∧ (0 ≤ x7 ∧ x7 < 216) ∧ ¬ A 44 (x7.toNat) = 0 ∧ hz_rL x3 ∧ hz_rL (A 44 (x7.toNat)) ∧ ∀ x5_5 : Int, x5_5 = x5 + ((A 43 (x7.toNat)) * (x3.tdiv (A 44 (x7.toNat)))) → ∀ x7_6 : Int, x7_6 = x7 + 1 → P85 x5_5 x7_6)) → P85 x5 x7) → P85 x5 x7
noncomputable def wp_together_55 (z : Nat → Int) (A : Nat → Nat → Int) (y1 : Int) (y2 : Int) (x3 : Int) (Q : (Nat → Int) → Prop) : Prop := hz_rL x3 ∧ ((x3 < 1000000000 → ∀ x7_8 : Int, x7_8 = 9 * y1 → wp_together_85 z A y1 y2 x3 0 x7_8  Q) ∧ (¬ (x3 < 1000000000) → (0 ≤ y1 ∧ y1 < 24) ∧ wp_stop z A 6 (A 37 (y1.toNat)) (fun z_10 => Q z_10)))
noncomputable def wp_together_8 (z : Nat → Int) (A : Nat → Nat → Int) (y1 : Int) (y2 : Int) (x3 : Int) (x5 : Int) (Q : (Nat → Int) → Prop) : Prop := ∀ P8 : Int → Int → Prop, (∀ (x3 : Int) (x5 : Int), hz_rI x5 ∧ hz_rI ((9 * y1) + y2) ∧ (((9 * y1) + y2 ≤ x5 → wp_together_55 z A y1 y2 x3  Q) ∧ (¬ ((9 * y1) + y2 ≤ x5) → hz_rL x3 ∧ ((1000000000 ≤ x3 → wp_together_55 z A y1 y2 x3  Q) ∧ (¬ (1000000000 ≤ x3) → (0 ≤ x5 ∧ x5 < 216) ∧ wp_divisor z A x3 (A 44 (x5.toNat)) (fun r_13 => ¬ r_13 = 0 ∧ hz_rL x3 ∧ hz_rL r_13 ∧ (0 ≤ x5 ∧ x5 < 216) ∧ ∀ x3_14 : Int, x3_14 = (x3.tdiv r_13) * (A 44 (x5.toNat)) → ∀ x5_15 : Int, x5_15 = x5 + 1 → P8 x3_14 x5_15))))) → P8 x3 x5) → P8 x3 x5
noncomputable def wp_together (z : Nat → Int) (A : Nat → Nat → Int) (y1 : Int) (y2 : Int) (Q : (Nat → Int) → Prop) : Prop := ∀ x5_16 : Int, x5_16 = 9 * y1 → wp_together_8 z A y1 y2 1 x5_16  Q
set_option maxHeartbeats 4000000 in
set_option maxRecDepth 100000 in
theorem k_together (l : Launch) (D : va_G) (sz : Nat) (om : Nat) (R : Nat → Nat) (C : Nat → ClassId) (z : Nat → Int) (A : Nat → Nat → Int) (y1 : Int) (y2 : Int) (Q : (Nat → Int) → Prop) (hw : wp_together z A y1 y2 Q) : Met l yX12_together wsX12_together ({ frames := 1, cells := 0, slots := 0, locals := 29 } : Room) (va_Pc [.ref om, .int (hz_i y1), .int (hz_i y2)] (hm_P D (mw_w om R C z A) (mw_t C) sz)) (va_Qv (S := Int × (Nat → Int) × (Nat → Nat → Int)) (fun u => Q u.2.1) (fun u t => hm_B D (va_A (mw_w om R C z A) sz) (mw_w om R C u.2.1 A) (mw_t C) t) (va_A (mw_w om R C z A) sz)) 0 0 (va_A (mw_w om R C z A) sz) := by
  refine Met.ofW (cc := cX12_together) (maxL := 8) (ret := none) (by decide) rfl ?_
  intro p e s m args below meth c s₁ B hml hv
  obtain ⟨rfl, hsz, hP, hK, hD0, hE⟩ := hv
  have hx := B.exec
  have hb := B.bytes
  have hr := B.returns
  have hts := atoms_spec (ws := wsX12_together) B.pre
  have hown : s.vm.findClass RX12 = some m.cls := findClass_of_methodNamed B.named
  have hlocks := B.notSynchronized
  have hin12 : ∀ w ∈ u_ws RX12 TX12 58, w ∈ wsX12_together := fun w h => List.mem_cons_of_mem _ (List.mem_append_right _ (h))
  subst hsz
  have hD := hD0.self (sz := s.heap.size)
  generalize hAe : va_A (mw_w om R C z A) s.heap.size = Ad at hD ⊢
  have hA : ∀ q : Nat, s.heap.size ≤ q → Ad q := fun q h => by rw [← hAe]; exact Or.inr h
  have hS : va_S Ad s.heap s.heap [] := va_S.rf
  have hl := lv_entry ([.ref om, .int (hz_i y1), .int (hz_i y2)]) (n := 8) (Nat.le_of_ble_eq_true rfl)
  rw [lg_entry_eq]
  generalize (lg_sl ([.ref om, .int (hz_i y1), .int (hz_i y2)]) ++ List.replicate (8 - (lg_sl ([.ref om, .int (hz_i y1), .int (hz_i y2)])).length) Slot.unset).toArray = ls at hl ⊢
  have hl : lv_has ls 8 [(0, .ref om), (1, .int (hz_i y1)), (2, .int (hz_i y2))] := hl
  refine mw_Q (fun QQ hQQ => ?_)
  have hP0 := hP; have hD0 := hD; have hS0 := hS; have hl0 := hl; have hw0 := hw
  clear hP hD hS hl hw
  have L142 : ∀ (z : Nat → Int), wp_together_142 z A  Q → ∀ (H : Heap) (locs : List Loc) (ls : Array Slot), va_P D vwCl (mw_w om R C z A) H → va_D Ad (mw_w om R C z A) → va_S Ad s.heap H locs → lv_has ls 8 [(0, .ref om)] → W p l e (headSpec wsX12_together ({ frames := 1, cells := 0, slots := 0, locals := 29 } : Room)).room s m (List.toArray [.ref om, .int (hz_i y1), .int (hz_i y2)]) below meth c H locs 0 0 QQ (F0 m 142 ls []) := by
    intro z hw H locs ls hP hD hS hl
    subst hQQ
    subst hAe
    exact W.vret hx hb hr (fun t ht hW => ⟨⟨(0, z, A), rfl, hw, by rw [ht]; exact hP, va_K.moved hW.alike hK, hD⟩, hS.F ht⟩) hS.2.2 dX12_together_142
  have L85 : ∀ (z : Nat → Int) (x3 : Int) (x5 : Int) (x7 : Int), wp_together_85 z A y1 y2 x3 x5 x7  Q → ∀ (H : Heap) (locs : List Loc) (ls : Array Slot), va_P D vwCl (mw_w om R C z A) H → va_D Ad (mw_w om R C z A) → va_S Ad s.heap H locs → lv_has ls 8 [(0, .ref om), (1, .int (hz_i y1)), (2, .int (hz_i y2)), (3, .long (hz_l x3)), (5, .long (hz_l x5)), (7, .int (hz_i x7))] → W p l e (headSpec wsX12_together ({ frames := 1, cells := 0, slots := 0, locals := 29 } : Room)).room s m (List.toArray [.ref om, .int (hz_i y1), .int (hz_i y2)]) below meth c H locs 0 0 QQ (F0 m 85 ls []) := by
    intro z x3 x5 x7 hw
    obtain ⟨P85, hP85⟩ : ∃ P : Int → Int → Prop, ∀ (x5 : Int) (x7 : Int), P x5 x7 ↔ (∀ (H : Heap) (locs : List Loc) (ls : Array Slot), va_P D vwCl (mw_w om R C z A) H → va_D Ad (mw_w om R C z A) → va_S Ad s.heap H locs → lv_has ls 8 [(0, .ref om), (1, .int (hz_i y1)), (2, .int (hz_i y2)), (3, .long (hz_l x3)), (5, .long (hz_l x5)), (7, .int (hz_i x7))] → W p l e (headSpec wsX12_together ({ frames := 1, cells := 0, slots := 0, locals := 29 } : Room)).room s m (List.toArray [.ref om, .int (hz_i y1), .int (hz_i y2)]) below meth c H locs 0 0 QQ (F0 m 85 ls [])) := ⟨fun (x5 : Int) (x7 : Int) => ∀ (H : Heap) (locs : List Loc) (ls : Array Slot), va_P D vwCl (mw_w om R C z A) H → va_D Ad (mw_w om R C z A) → va_S Ad s.heap H locs → lv_has ls 8 [(0, .ref om), (1, .int (hz_i y1)), (2, .int (hz_i y2)), (3, .long (hz_l x3)), (5, .long (hz_l x5)), (7, .int (hz_i x7))] → W p l e (headSpec wsX12_together ({ frames := 1, cells := 0, slots := 0, locals := 29 } : Room)).room s m (List.toArray [.ref om, .int (hz_i y1), .int (hz_i y2)]) below meth c H locs 0 0 QQ (F0 m 85 ls []), fun _ _ => Iff.rfl⟩
    refine (hP85 x5 x7).mp (hw P85 ?_)
    intro x5 x7 hw
    refine (hP85 x5 x7).mpr ?_
    intro H locs ls hP hD hS hl
    refine lv_iload hx hb dX12_together_85 (lv_at hl 5 rfl) ?_
    refine lv_bipush (v := hz_i 9) hx hb dX12_together_87 (by decide +kernel) ?_
    refine lv_iload_n hx hb dX12_together_89 rfl (lv_at hl 1 rfl) ?_
    refine hz_imul hx hb dX12_together_90 ?_
    refine lv_iload_n hx hb dX12_together_91 rfl (lv_at hl 2 rfl) ?_
    refine hz_iadd hx hb dX12_together_92 ?_
    obtain ⟨h9a, hw⟩ := hw
    obtain ⟨h9b, hw⟩ := hw
    refine hz_icmp_ge (tgt := 124) hx hb dX12_together_93 (by decide) h9a h9b (fun c_1 => ?_) (fun c_1 => ?_)
    · have hw := hw.1 c_1
      refine lv_lload hx hb dX12_together_124 (lv_at hl 4 rfl) ?_
      refine lv_lload_n hx hb dX12_together_126 rfl (lv_at hl 3 rfl) ?_
      obtain ⟨h9a, hw⟩ := hw
      obtain ⟨h9b, hw⟩ := hw
      refine hz_lcmp_eq (tgt := 142) hx hb dX12_together_127 dX12_together_128 (by decide) h9a h9b (fun c_2 => ?_) (fun c_2 => ?_)
      · have hw := hw.1 c_2
        exact L142 z hw H locs ls hP hD hS (lv_sub hl [0] rfl)
      · have hw := hw.2 c_2
        refine lv_aload_n hx hb dX12_together_131 rfl (lv_at hl 0 rfl) ?_
        refine lv_iconst (v := hz_i 3) hx hb dX12_together_132 (by decide +kernel) ?_
        refine lv_aload_n hx hb dX12_together_133 rfl (lv_at hl 0 rfl) ?_
        refine mw_get (v := .ref (R 37)) hx hb hts hin12 hown hK hP 37 (by decide) (hts (.fieldLink RX12 175 "HiddenMovesModel" "openWord" "[I") (List.mem_cons_of_mem _ (List.mem_append_left _ (List.mem_of_getElem? (i := 2) rfl)))) (fun _ h9 => h9) rfl dX12_together_134 ?_
        refine lv_iload_n hx hb dX12_together_137 rfl (lv_at hl 1 rfl) ?_
        obtain ⟨h9i, hw⟩ := hw
        refine mw_ild (k := 37) (n := 24) (i := y1) hx hb hK hP 28 27 rfl rfl h9i (by decide) dX12_together_138 ?_
        have hFc := mw_free hD hS hA
        refine va_callv (va_runV (As := [.int (hz_i 3), .int (hz_i (A 37 (y1.toNat)))]) (rest := []) ⟨hx, hb, hml, hown, hts⟩ (k_stop l D _ om R C z A 3 (A 37 (y1.toNat)) _ hw) (cwV 2 hts gX12_together_X12_stop rfl rfl rfl (by decide +kernel) ⟨Nat.le_of_ble_eq_true rfl, Nat.le_of_ble_eq_true rfl⟩) ⟨hm_blind, va_recv hK hP (ci := 12) (q0 := 0) rfl rfl, hm_pre hP hK hD hE⟩ rfl rfl hl.1 rfl (lv_room (Nat.le_of_ble_eq_true rfl)) dX12_together_139 ⟨Nat.le_of_ble_eq_true rfl, Nat.le_of_ble_eq_true rfl⟩) hS (fun q _ h => hFc q h) hFc (fun u t H1 locs ht hvm hw hB hz1 hk1 hS => ?_)
        obtain ⟨r_3, z_4, _⟩ := u
        obtain ⟨hP, hK1, hD1⟩ := hB
        rw [ht] at hP
        have hD := hD1.weaken (fun k q _ h => hFc q.1 h)
        have hP : va_P D vwCl (mw_w om R C z_4 A) H1 := hP
        have hD : va_D Ad (mw_w om R C z_4 A) := hD
        generalize H1 = H at hP hS ⊢
        refine W.eq (g2 := F0 m 142 ls []) rfl ?_
        exact L142 z_4 hw H locs ls hP hD hS (lv_sub hl [0] rfl)
    · have hw := hw.2 c_1
      refine lv_lload hx hb dX12_together_96 (lv_at hl 4 rfl) ?_
      refine lv_aload_n hx hb dX12_together_98 rfl (lv_at hl 0 rfl) ?_
      refine mw_get (v := .ref (R 43)) hx hb hts hin12 hown hK hP 43 (by decide) (hts (.fieldLink RX12 193 "HiddenMovesModel" "chanceTop" "[J") (List.mem_cons_of_mem _ (List.mem_append_left _ (List.mem_of_getElem? (i := 3) rfl)))) (fun _ h9 => h9) rfl dX12_together_99 ?_
      refine lv_iload hx hb dX12_together_102 (lv_at hl 5 rfl) ?_
      obtain ⟨h9i, hw⟩ := hw
      refine mw_lld (k := 43) (n := 216) (i := x7) hx hb hK hP 34 33 rfl rfl h9i (by decide) dX12_together_104 ?_
      refine lv_lload_n hx hb dX12_together_105 rfl (lv_at hl 3 rfl) ?_
      refine lv_aload_n hx hb dX12_together_106 rfl (lv_at hl 0 rfl) ?_
      refine mw_get (v := .ref (R 44)) hx hb hts hin12 hown hK hP 44 (by decide) (hts (.fieldLink RX12 196 "HiddenMovesModel" "chanceBottom" "[J") (List.mem_cons_of_mem _ (List.mem_append_left _ (List.mem_of_getElem? (i := 1) rfl)))) (fun _ h9 => h9) rfl dX12_together_107 ?_
      refine lv_iload hx hb dX12_together_110 (lv_at hl 5 rfl) ?_
      obtain ⟨h9i, hw⟩ := hw
      refine mw_lld (k := 44) (n := 216) (i := x7) hx hb hK hP 35 34 rfl rfl h9i (by decide) dX12_together_112 ?_
      obtain ⟨h9n, h9a, h9b, hw⟩ := hw
      refine hz_ldiv hx hb dX12_together_113 h9n h9a h9b ?_
      refine hz_lmul hx hb dX12_together_114 ?_
      refine hz_ladd hx hb dX12_together_115 ?_
      refine hz_topl (fun x5_5 hx5_5 => ?_)
      have hw := hw x5_5 hx5_5
      refine lv_lstore (lv' := [(5, .long (hz_l x5_5)), (0, .ref om), (1, .int (hz_i y1)), (2, .int (hz_i y2)), (3, .long (hz_l x3)), (7, .int (hz_i x7))]) hx hb dX12_together_116 hl (by decide) rfl (fun ls hl => ?_)
      obtain ⟨x7_6, hx7_6⟩ : ∃ y : Int, y = x7 + 1 := ⟨_, rfl⟩
      have hw := hw x7_6 hx7_6
      refine lv_iinc (v := hz_i x7_6) (lv' := [(7, .int (hz_i x7_6)), (5, .long (hz_l x5_5)), (0, .ref om), (1, .int (hz_i y1)), (2, .int (hz_i y2)), (3, .long (hz_l x3))]) hx hb dX12_together_118 hl (k := 5) rfl (by rw [hx7_6]; exact hz_i_add _ _) (by decide) rfl (fun ls hl => ?_)
      refine lv_goto (tgt := 85) hx hb dX12_together_121 (by decide) ?_
      exact (hP85 x5_5 x7_6).mp hw H locs ls hP hD hS (lv_sub hl [2, 3, 4, 5, 1, 0] rfl)
  have L55 : ∀ (z : Nat → Int) (x3 : Int), wp_together_55 z A y1 y2 x3  Q → ∀ (H : Heap) (locs : List Loc) (ls : Array Slot), va_P D vwCl (mw_w om R C z A) H → va_D Ad (mw_w om R C z A) → va_S Ad s.heap H locs → lv_has ls 8 [(0, .ref om), (1, .int (hz_i y1)), (2, .int (hz_i y2)), (3, .long (hz_l x3))] → W p l e (headSpec wsX12_together ({ frames := 1, cells := 0, slots := 0, locals := 29 } : Room)).room s m (List.toArray [.ref om, .int (hz_i y1), .int (hz_i y2)]) below meth c H locs 0 0 QQ (F0 m 55 ls []) := by
    intro z x3 hw H locs ls hP hD hS hl
    refine lv_lload_n hx hb dX12_together_55 rfl (lv_at hl 3 rfl) ?_
    refine lv_ldc2 hx hb hown (hts (.constantLong RX12 295 (1000000000)) (List.mem_cons_of_mem _ (List.mem_append_left _ (List.mem_of_getElem? (i := 0) rfl)))) dX12_together_56 ?_
    refine hz_asl (b := 1000000000) (by decide +kernel) ?_
    obtain ⟨h9a, hw⟩ := hw
    refine hz_lcmp_lt (tgt := 76) hx hb dX12_together_59 dX12_together_60 (by decide) h9a ⟨by decide, by decide⟩ (fun c_7 => ?_) (fun c_7 => ?_)
    · have hw := hw.1 c_7
      refine lv_lconst (v := hz_l 0) hx hb dX12_together_76 (by decide +kernel) ?_
      refine lv_lstore (lv' := [(5, .long (hz_l 0)), (0, .ref om), (1, .int (hz_i y1)), (2, .int (hz_i y2)), (3, .long (hz_l x3))]) hx hb dX12_together_77 hl (by decide) rfl (fun ls hl => ?_)
      refine lv_bipush (v := hz_i 9) hx hb dX12_together_79 (by decide +kernel) ?_
      refine lv_iload_n hx hb dX12_together_81 rfl (lv_at hl 2 rfl) ?_
      refine hz_imul hx hb dX12_together_82 ?_
      refine hz_topi (fun x7_8 hx7_8 => ?_)
      have hw := hw x7_8 hx7_8
      refine lv_istore (lv' := [(7, .int (hz_i x7_8)), (5, .long (hz_l 0)), (0, .ref om), (1, .int (hz_i y1)), (2, .int (hz_i y2)), (3, .long (hz_l x3))]) hx hb dX12_together_83 hl (by decide) rfl (fun ls hl => ?_)
      exact L85 z x3 0 x7_8 hw H locs ls hP hD hS (lv_sub hl [2, 3, 4, 5, 1, 0] rfl)
    · have hw := hw.2 c_7
      refine lv_aload_n hx hb dX12_together_63 rfl (lv_at hl 0 rfl) ?_
      refine lv_bipush (v := hz_i 6) hx hb dX12_together_64 (by decide +kernel) ?_
      refine lv_aload_n hx hb dX12_together_66 rfl (lv_at hl 0 rfl) ?_
      refine mw_get (v := .ref (R 37)) hx hb hts hin12 hown hK hP 37 (by decide) (hts (.fieldLink RX12 175 "HiddenMovesModel" "openWord" "[I") (List.mem_cons_of_mem _ (List.mem_append_left _ (List.mem_of_getElem? (i := 2) rfl)))) (fun _ h9 => h9) rfl dX12_together_67 ?_
      refine lv_iload_n hx hb dX12_together_70 rfl (lv_at hl 1 rfl) ?_
      obtain ⟨h9i, hw⟩ := hw
      refine mw_ild (k := 37) (n := 24) (i := y1) hx hb hK hP 28 27 rfl rfl h9i (by decide) dX12_together_71 ?_
      have hFc := mw_free hD hS hA
      refine va_callv (va_runV (As := [.int (hz_i 6), .int (hz_i (A 37 (y1.toNat)))]) (rest := []) ⟨hx, hb, hml, hown, hts⟩ (k_stop l D _ om R C z A 6 (A 37 (y1.toNat)) _ hw) (cwV 2 hts gX12_together_X12_stop rfl rfl rfl (by decide +kernel) ⟨Nat.le_of_ble_eq_true rfl, Nat.le_of_ble_eq_true rfl⟩) ⟨hm_blind, va_recv hK hP (ci := 12) (q0 := 0) rfl rfl, hm_pre hP hK hD hE⟩ rfl rfl hl.1 rfl (lv_room (Nat.le_of_ble_eq_true rfl)) dX12_together_72 ⟨Nat.le_of_ble_eq_true rfl, Nat.le_of_ble_eq_true rfl⟩) hS (fun q _ h => hFc q h) hFc (fun u t H1 locs ht hvm hw hB hz1 hk1 hS => ?_)
      obtain ⟨r_9, z_10, _⟩ := u
      obtain ⟨hP, hK1, hD1⟩ := hB
      rw [ht] at hP
      have hD := hD1.weaken (fun k q _ h => hFc q.1 h)
      have hP : va_P D vwCl (mw_w om R C z_10 A) H1 := hP
      have hD : va_D Ad (mw_w om R C z_10 A) := hD
      generalize H1 = H at hP hS ⊢
      refine W.eq (g2 := F0 m 75 ls []) rfl ?_
      subst hQQ
      subst hAe
      exact W.vret hx hb hr (fun t ht hW => ⟨⟨(0, z_10, A), rfl, hw, by rw [ht]; exact hP, va_K.moved hW.alike hK, hD⟩, hS.F ht⟩) hS.2.2 dX12_together_75
  have L8 : ∀ (z : Nat → Int) (x3 : Int) (x5 : Int), wp_together_8 z A y1 y2 x3 x5  Q → ∀ (H : Heap) (locs : List Loc) (ls : Array Slot), va_P D vwCl (mw_w om R C z A) H → va_D Ad (mw_w om R C z A) → va_S Ad s.heap H locs → lv_has ls 8 [(0, .ref om), (1, .int (hz_i y1)), (2, .int (hz_i y2)), (3, .long (hz_l x3)), (5, .int (hz_i x5))] → W p l e (headSpec wsX12_together ({ frames := 1, cells := 0, slots := 0, locals := 29 } : Room)).room s m (List.toArray [.ref om, .int (hz_i y1), .int (hz_i y2)]) below meth c H locs 0 0 QQ (F0 m 8 ls []) := by
    intro z x3 x5 hw
    obtain ⟨P8, hP8⟩ : ∃ P : Int → Int → Prop, ∀ (x3 : Int) (x5 : Int), P x3 x5 ↔ (∀ (H : Heap) (locs : List Loc) (ls : Array Slot), va_P D vwCl (mw_w om R C z A) H → va_D Ad (mw_w om R C z A) → va_S Ad s.heap H locs → lv_has ls 8 [(0, .ref om), (1, .int (hz_i y1)), (2, .int (hz_i y2)), (3, .long (hz_l x3)), (5, .int (hz_i x5))] → W p l e (headSpec wsX12_together ({ frames := 1, cells := 0, slots := 0, locals := 29 } : Room)).room s m (List.toArray [.ref om, .int (hz_i y1), .int (hz_i y2)]) below meth c H locs 0 0 QQ (F0 m 8 ls [])) := ⟨fun (x3 : Int) (x5 : Int) => ∀ (H : Heap) (locs : List Loc) (ls : Array Slot), va_P D vwCl (mw_w om R C z A) H → va_D Ad (mw_w om R C z A) → va_S Ad s.heap H locs → lv_has ls 8 [(0, .ref om), (1, .int (hz_i y1)), (2, .int (hz_i y2)), (3, .long (hz_l x3)), (5, .int (hz_i x5))] → W p l e (headSpec wsX12_together ({ frames := 1, cells := 0, slots := 0, locals := 29 } : Room)).room s m (List.toArray [.ref om, .int (hz_i y1), .int (hz_i y2)]) below meth c H locs 0 0 QQ (F0 m 8 ls []), fun _ _ => Iff.rfl⟩
    refine (hP8 x3 x5).mp (hw P8 ?_)
    intro x3 x5 hw
    refine (hP8 x3 x5).mpr ?_
    intro H locs ls hP hD hS hl
    refine lv_iload hx hb dX12_together_8 (lv_at hl 4 rfl) ?_
    refine lv_bipush (v := hz_i 9) hx hb dX12_together_10 (by decide +kernel) ?_
    refine lv_iload_n hx hb dX12_together_12 rfl (lv_at hl 1 rfl) ?_
    refine hz_imul hx hb dX12_together_13 ?_
    refine lv_iload_n hx hb dX12_together_14 rfl (lv_at hl 2 rfl) ?_
    refine hz_iadd hx hb dX12_together_15 ?_
    obtain ⟨h9a, hw⟩ := hw
    obtain ⟨h9b, hw⟩ := hw
    refine hz_icmp_ge (tgt := 55) hx hb dX12_together_16 (by decide) h9a h9b (fun c_11 => ?_) (fun c_11 => ?_)
    · have hw := hw.1 c_11
      exact L55 z x3 hw H locs ls hP hD hS (lv_sub hl [0, 1, 2, 3] rfl)
    · have hw := hw.2 c_11
      refine lv_lload_n hx hb dX12_together_19 rfl (lv_at hl 3 rfl) ?_
      refine lv_ldc2 hx hb hown (hts (.constantLong RX12 295 (1000000000)) (List.mem_cons_of_mem _ (List.mem_append_left _ (List.mem_of_getElem? (i := 0) rfl)))) dX12_together_20 ?_
      refine hz_asl (b := 1000000000) (by decide +kernel) ?_
      obtain ⟨h9a, hw⟩ := hw
      refine hz_lcmp_ge (tgt := 55) hx hb dX12_together_23 dX12_together_24 (by decide) h9a ⟨by decide, by decide⟩ (fun c_12 => ?_) (fun c_12 => ?_)
      · have hw := hw.1 c_12
        exact L55 z x3 hw H locs ls hP hD hS (lv_sub hl [0, 1, 2, 3] rfl)
      · have hw := hw.2 c_12
        refine lv_lload_n hx hb dX12_together_27 rfl (lv_at hl 3 rfl) ?_
        refine lv_lload_n hx hb dX12_together_28 rfl (lv_at hl 3 rfl) ?_
        refine lv_aload_n hx hb dX12_together_29 rfl (lv_at hl 0 rfl) ?_
        refine mw_get (v := .ref (R 44)) hx hb hts hin12 hown hK hP 44 (by decide) (hts (.fieldLink RX12 196 "HiddenMovesModel" "chanceBottom" "[J") (List.mem_cons_of_mem _ (List.mem_append_left _ (List.mem_of_getElem? (i := 1) rfl)))) (fun _ h9 => h9) rfl dX12_together_30 ?_
        refine lv_iload hx hb dX12_together_33 (lv_at hl 4 rfl) ?_
        obtain ⟨h9i, hw⟩ := hw
        refine mw_lld (k := 44) (n := 216) (i := x5) hx hb hK hP 35 34 rfl rfl h9i (by decide) dX12_together_35 ?_
        have hFc := mw_free hD hS hA
        refine va_calll (va_runS (As := [.long (hz_l x3), .long (hz_l (A 44 (x5.toNat)))]) (rest := [.long (hz_l x3)]) ⟨hx, hb, hml, hown, hts⟩ (k_divisor l D _ om R C z A x3 (A 44 (x5.toNat)) _ hw) (va_cwS 2 hts gX12_together_X12_divisor rfl rfl rfl (by decide +kernel) ⟨Nat.le_of_ble_eq_true rfl, Nat.le_of_ble_eq_true rfl⟩) ⟨hm_blind, hm_pre hP hK hD hE⟩ rfl rfl hl.1 rfl (lv_room (Nat.le_of_ble_eq_true rfl)) dX12_together_36 ⟨Nat.le_of_ble_eq_true rfl, Nat.le_of_ble_eq_true rfl⟩) hS (fun q _ h => hFc q h) hFc (fun rv u t H1 locs ht hvm hw hB hz1 hk1 hS => ?_)
        obtain ⟨r_13, _, _⟩ := u
        obtain ⟨hP, hK1, hD1⟩ := hB
        rw [ht] at hP
        obtain ⟨hrv, hw⟩ := hw
        subst hrv
        have hD := hD1.weaken (fun k q _ h => hFc q.1 h)
        have hP : va_P D vwCl (mw_w om R C z A) H1 := hP
        have hD : va_D Ad (mw_w om R C z A) := hD
        generalize H1 = H at hP hS ⊢
        refine W.eq (g2 := F0 m 39 ls [.long (hz_l r_13), .long (hz_l x3)]) rfl ?_
        obtain ⟨h9n, h9a, h9b, hw⟩ := hw
        refine hz_ldiv hx hb dX12_together_39 h9n h9a h9b ?_
        refine lv_aload_n hx hb dX12_together_40 rfl (lv_at hl 0 rfl) ?_
        refine mw_get (v := .ref (R 44)) hx hb hts hin12 hown hK hP 44 (by decide) (hts (.fieldLink RX12 196 "HiddenMovesModel" "chanceBottom" "[J") (List.mem_cons_of_mem _ (List.mem_append_left _ (List.mem_of_getElem? (i := 1) rfl)))) (fun _ h9 => h9) rfl dX12_together_41 ?_
        refine lv_iload hx hb dX12_together_44 (lv_at hl 4 rfl) ?_
        obtain ⟨h9i, hw⟩ := hw
        refine mw_lld (k := 44) (n := 216) (i := x5) hx hb hK hP 35 34 rfl rfl h9i (by decide) dX12_together_46 ?_
        refine hz_lmul hx hb dX12_together_47 ?_
        refine hz_topl (fun x3_14 hx3_14 => ?_)
        have hw := hw x3_14 hx3_14
        refine lv_lstore_n (lv' := [(3, .long (hz_l x3_14)), (0, .ref om), (1, .int (hz_i y1)), (2, .int (hz_i y2)), (5, .int (hz_i x5))]) hx hb dX12_together_48 rfl hl (by decide) rfl (fun ls hl => ?_)
        obtain ⟨x5_15, hx5_15⟩ : ∃ y : Int, y = x5 + 1 := ⟨_, rfl⟩
        have hw := hw x5_15 hx5_15
        refine lv_iinc (v := hz_i x5_15) (lv' := [(5, .int (hz_i x5_15)), (3, .long (hz_l x3_14)), (0, .ref om), (1, .int (hz_i y1)), (2, .int (hz_i y2))]) hx hb dX12_together_49 hl (k := 4) rfl (by rw [hx5_15]; exact hz_i_add _ _) (by decide) rfl (fun ls hl => ?_)
        refine lv_goto (tgt := 8) hx hb dX12_together_52 (by decide) ?_
        exact (hP8 x3_14 x5_15).mp hw H locs ls hP hD hS (lv_sub hl [2, 3, 4, 1, 0] rfl)
  have hP := hP0; have hD := hD0; have hS := hS0; have hl := hl0; have hw := hw0
  obtain ⟨H, hH⟩ : ∃ H : Heap, H = s.heap := ⟨_, rfl⟩
  obtain ⟨locs, hlocs⟩ : ∃ L : List Loc, L = [] := ⟨_, rfl⟩
  rw [← hH] at hP
  have hS : va_S Ad s.heap H locs := by rw [hH, hlocs]; exact hS
  refine mw_HL hH hlocs ?_
  refine lv_lconst (v := hz_l 1) hx hb dX12_together_0 (by decide +kernel) ?_
  refine lv_lstore_n (lv' := [(3, .long (hz_l 1)), (0, .ref om), (1, .int (hz_i y1)), (2, .int (hz_i y2))]) hx hb dX12_together_1 rfl hl (by decide) rfl (fun ls hl => ?_)
  refine lv_bipush (v := hz_i 9) hx hb dX12_together_2 (by decide +kernel) ?_
  refine lv_iload_n hx hb dX12_together_4 rfl (lv_at hl 2 rfl) ?_
  refine hz_imul hx hb dX12_together_5 ?_
  refine hz_topi (fun x5_16 hx5_16 => ?_)
  have hw := hw x5_16 hx5_16
  refine lv_istore (lv' := [(5, .int (hz_i x5_16)), (3, .long (hz_l 1)), (0, .ref om), (1, .int (hz_i y1)), (2, .int (hz_i y2))]) hx hb dX12_together_6 hl (by decide) rfl (fun ls hl => ?_)
  exact L8 z 1 x5_16 hw H locs ls hP hD hS (lv_sub hl [2, 3, 4, 1, 0] rfl)

noncomputable def wp_finish_139 (z : Nat → Int) (A : Nat → Nat → Int) (Q : (Nat → Int) → (Nat → Nat → Int) → Prop) : Prop := Q z A
noncomputable def wp_finish_123 (z : Nat → Int) (A : Nat → Nat → Int) (x2 : Int) (x4 : Int) (Q : (Nat → Int) → (Nat → Nat → Int) → Prop) : Prop := (0 ≤ (20 * (z 33)) + x4 ∧ (20 * (z 33)) + x4 < 40) ∧ ∀ A_1 : Nat → Nat → Int, A_1 = hz_s A 28 ((20 * (z 33)) + x4) x2 → wp_finish_139 z A_1  Q
noncomputable def wp_finish_37 (z : Nat → Int) (A : Nat → Nat → Int) (y1 : Int) (x2 : Int) (x3 : Int) (t0 : Int) (t1 : Int) (Q : (Nat → Int) → (Nat → Nat → Int) → Prop) : Prop := hz_rI t1 ∧ hz_rI t0 ∧ ((t1 ≤ t0 → hz_rI x3 ∧ ((x3 = 0 → (0 ≤ y1 ∧ y1 < 24) ∧ ∀ x4_4 : Int, x4_4 = A 39 (y1.toNat) → (0 ≤ (20 * (z 33)) + x4_4 ∧ (20 * (z 33)) + x4_4 < 40) ∧ hz_rI (A 28 (((20 * (z 33)) + x4_4).toNat)) ∧ ((A 28 (((20 * (z 33)) + x4_4).toNat) ≤ 0 → wp_finish_123 z A x2 x4_4  Q) ∧ (¬ (A 28 (((20 * (z 33)) + x4_4).toNat) ≤ 0) → (0 ≤ (20 * (z 33)) + x4_4 ∧ (20 * (z 33)) + x4_4 < 40) ∧ hz_rI (A 28 (((20 * (z 33)) + x4_4).toNat)) ∧ hz_rI x2 ∧ ((A 28 (((20 * (z 33)) + x4_4).toNat) = x2 → wp_finish_123 z A x2 x4_4  Q) ∧ (¬ (A 28 (((20 * (z 33)) + x4_4).toNat) = x2) → (0 ≤ y1 ∧ y1 < 24) ∧ wp_stop z A 5 (A 37 (y1.toNat)) (fun z_8 => wp_finish_123 z_8 A x2 x4_4  Q)))))) ∧ (¬ (x3 = 0) → wp_together z A y1 x2 (fun z_10 => wp_finish_139 z_10 A  Q)))) ∧ (¬ (t1 ≤ t0) → (0 ≤ y1 ∧ y1 < 24) ∧ wp_stop z A 2 (A 37 (y1.toNat)) (fun z_12 => wp_finish_139 z_12 A  Q)))
noncomputable def wp_finish_25 (z : Nat → Int) (A : Nat → Nat → Int) (y1 : Int) (x2 : Int) (t0 : Int) (Q : (Nat → Int) → (Nat → Nat → Int) → Prop) : Prop := hz_rI t0 ∧ ((t0 = 0 → wp_finish_37 z A y1 x2 t0 4 x2  Q) ∧ (¬ (t0 = 0) → wp_finish_37 z A y1 x2 t0 8 x2  Q))
noncomputable def wp_finish (z : Nat → Int) (A : Nat → Nat → Int) (y1 : Int) (Q : (Nat → Int) → (Nat → Nat → Int) → Prop) : Prop := (0 ≤ y1 ∧ y1 < 24) ∧ ∀ x2_14 : Int, x2_14 = (A 40 (y1.toNat)) + 1 → (0 ≤ y1 ∧ y1 < 24) ∧ hz_rI (A 38 (y1.toNat)) ∧ ((¬ A 38 (y1.toNat) = 63 → wp_finish_25 z A y1 x2_14 0  Q) ∧ (A 38 (y1.toNat) = 63 → wp_finish_25 z A y1 x2_14 1  Q))
set_option maxHeartbeats 4000000 in
set_option maxRecDepth 100000 in
theorem k_finish (l : Launch) (D : va_G) (sz : Nat) (om : Nat) (R : Nat → Nat) (C : Nat → ClassId) (z : Nat → Int) (A : Nat → Nat → Int) (y1 : Int) (Q : (Nat → Int) → (Nat → Nat → Int) → Prop) (hw : wp_finish z A y1 Q) : Met l yX12_finish wsX12_finish ({ frames := 2, cells := 0, slots := 0, locals := 56 } : Room) (va_Pc [.ref om, .int (hz_i y1)] (hm_P D (mw_w om R C z A) (mw_t C) sz)) (va_Qv (S := Int × (Nat → Int) × (Nat → Nat → Int)) (fun u => Q u.2.1 u.2.2) (fun u t => hm_B D (va_A (mw_w om R C z A) sz) (mw_w om R C u.2.1 u.2.2) (mw_t C) t) (va_A (mw_w om R C z A) sz)) 0 0 (va_A (mw_w om R C z A) sz) := by
  refine Met.ofW (cc := cX12_finish) (maxL := 5) (ret := none) (by decide) rfl ?_
  intro p e s m args below meth c s₁ B hml hv
  obtain ⟨rfl, hsz, hP, hK, hD0, hE⟩ := hv
  have hx := B.exec
  have hb := B.bytes
  have hr := B.returns
  have hts := atoms_spec (ws := wsX12_finish) B.pre
  have hown : s.vm.findClass RX12 = some m.cls := findClass_of_methodNamed B.named
  have hlocks := B.notSynchronized
  have hin12 : ∀ w ∈ u_ws RX12 TX12 58, w ∈ wsX12_finish := fun w h => List.mem_cons_of_mem _ (List.mem_append_right _ (h))
  subst hsz
  have hD := hD0.self (sz := s.heap.size)
  generalize hAe : va_A (mw_w om R C z A) s.heap.size = Ad at hD ⊢
  have hA : ∀ q : Nat, s.heap.size ≤ q → Ad q := fun q h => by rw [← hAe]; exact Or.inr h
  have hS : va_S Ad s.heap s.heap [] := va_S.rf
  have hl := lv_entry ([.ref om, .int (hz_i y1)]) (n := 5) (Nat.le_of_ble_eq_true rfl)
  rw [lg_entry_eq]
  generalize (lg_sl ([.ref om, .int (hz_i y1)]) ++ List.replicate (5 - (lg_sl ([.ref om, .int (hz_i y1)])).length) Slot.unset).toArray = ls at hl ⊢
  have hl : lv_has ls 5 [(0, .ref om), (1, .int (hz_i y1))] := hl
  refine mw_Q (fun QQ hQQ => ?_)
  have hP0 := hP; have hD0 := hD; have hS0 := hS; have hl0 := hl; have hw0 := hw
  clear hP hD hS hl hw
  have L139 : ∀ (z : Nat → Int) (A : Nat → Nat → Int), wp_finish_139 z A  Q → ∀ (H : Heap) (locs : List Loc) (ls : Array Slot), va_P D vwCl (mw_w om R C z A) H → va_D Ad (mw_w om R C z A) → va_S Ad s.heap H locs → lv_has ls 5 [(0, .ref om)] → W p l e (headSpec wsX12_finish ({ frames := 2, cells := 0, slots := 0, locals := 56 } : Room)).room s m (List.toArray [.ref om, .int (hz_i y1)]) below meth c H locs 0 0 QQ (F0 m 139 ls []) := by
    intro z A hw H locs ls hP hD hS hl
    subst hQQ
    subst hAe
    exact W.vret hx hb hr (fun t ht hW => ⟨⟨(0, z, A), rfl, hw, by rw [ht]; exact hP, va_K.moved hW.alike hK, hD⟩, hS.F ht⟩) hS.2.2 dX12_finish_139
  have L123 : ∀ (z : Nat → Int) (A : Nat → Nat → Int) (x2 : Int) (x4 : Int), wp_finish_123 z A x2 x4  Q → ∀ (H : Heap) (locs : List Loc) (ls : Array Slot), va_P D vwCl (mw_w om R C z A) H → va_D Ad (mw_w om R C z A) → va_S Ad s.heap H locs → lv_has ls 5 [(0, .ref om), (2, .int (hz_i x2)), (4, .int (hz_i x4))] → W p l e (headSpec wsX12_finish ({ frames := 2, cells := 0, slots := 0, locals := 56 } : Room)).room s m (List.toArray [.ref om, .int (hz_i y1)]) below meth c H locs 0 0 QQ (F0 m 123 ls []) := by
    intro z A x2 x4 hw H locs ls hP hD hS hl
    refine lv_aload_n hx hb dX12_finish_123 rfl (lv_at hl 0 rfl) ?_
    refine mw_get (v := .ref (R 28)) hx hb hts hin12 hown hK hP 28 (by decide) (hts (.fieldLink RX12 160 "HiddenMovesModel" "moves" "[I") (List.mem_cons_of_mem _ (List.mem_append_left _ (List.mem_of_getElem? (i := 4) rfl)))) (fun _ h9 => h9) rfl dX12_finish_124 ?_
    refine lv_bipush (v := hz_i 20) hx hb dX12_finish_127 (by decide +kernel) ?_
    refine lv_aload_n hx hb dX12_finish_129 rfl (lv_at hl 0 rfl) ?_
    refine mw_get (v := .int (hz_i (z 33))) hx hb hts hin12 hown hK hP 33 (by decide) (hts (.fieldLink RX12 172 "HiddenMovesModel" "draft" "I") (List.mem_cons_of_mem _ (List.mem_append_left _ (List.mem_of_getElem? (i := 5) rfl)))) (fun _ h9 => h9) rfl dX12_finish_130 ?_
    refine hz_imul hx hb dX12_finish_133 ?_
    refine lv_iload hx hb dX12_finish_134 (lv_at hl 2 rfl) ?_
    refine hz_iadd hx hb dX12_finish_136 ?_
    refine lv_iload_n hx hb dX12_finish_137 rfl (lv_at hl 1 rfl) ?_
    obtain ⟨h9i, hw⟩ := hw
    refine mw_ist (k := 28) (n := 40) (i := (20 * (z 33)) + x4) (v := x2) hx hb hK hP hD hS 24 23 rfl rfl (mw_a28 om R C z A) h9i (by decide) dX12_finish_138 (fun H locs hP hD hS => ?_)
    obtain ⟨A_1, hA_1⟩ : ∃ y : Nat → Nat → Int, y = hz_s A 28 ((20 * (z 33)) + x4) x2 := ⟨_, rfl⟩
    rw [← hA_1] at hP hD
    have hw := hw A_1 hA_1
    exact L139 z A_1 hw H locs ls hP hD hS (lv_sub hl [0] rfl)
  have L37 : ∀ (z : Nat → Int) (A : Nat → Nat → Int) (x2 : Int) (x3 : Int) (t0 : Int) (t1 : Int), wp_finish_37 z A y1 x2 x3 t0 t1  Q → ∀ (H : Heap) (locs : List Loc) (ls : Array Slot), va_P D vwCl (mw_w om R C z A) H → va_D Ad (mw_w om R C z A) → va_S Ad s.heap H locs → lv_has ls 5 [(0, .ref om), (1, .int (hz_i y1)), (2, .int (hz_i x2)), (3, .int (hz_i x3))] → W p l e (headSpec wsX12_finish ({ frames := 2, cells := 0, slots := 0, locals := 56 } : Room)).room s m (List.toArray [.ref om, .int (hz_i y1)]) below meth c H locs 0 0 QQ (F0 m 37 ls [.int (hz_i t0), .int (hz_i t1)]) := by
    intro z A x2 x3 t0 t1 hw H locs ls hP hD hS hl
    obtain ⟨h9a, hw⟩ := hw
    obtain ⟨h9b, hw⟩ := hw
    refine hz_icmp_le (tgt := 54) hx hb dX12_finish_37 (by decide) h9a h9b (fun c_2 => ?_) (fun c_2 => ?_)
    · have hw := hw.1 c_2
      refine lv_iload_n hx hb dX12_finish_54 rfl (lv_at hl 3 rfl) ?_
      obtain ⟨h9a, hw⟩ := hw
      refine hz_if_eq (tgt := 67) hx hb dX12_finish_55 (by decide) h9a (fun c_3 => ?_) (fun c_3 => ?_)
      · have hw := hw.1 c_3
        refine lv_aload_n hx hb dX12_finish_67 rfl (lv_at hl 0 rfl) ?_
        refine mw_get (v := .ref (R 39)) hx hb hts hin12 hown hK hP 39 (by decide) (hts (.fieldLink RX12 181 "HiddenMovesModel" "openSet" "[I") (List.mem_cons_of_mem _ (List.mem_append_left _ (List.mem_of_getElem? (i := 3) rfl)))) (fun _ h9 => h9) rfl dX12_finish_68 ?_
        refine lv_iload_n hx hb dX12_finish_71 rfl (lv_at hl 1 rfl) ?_
        obtain ⟨h9i, hw⟩ := hw
        refine mw_ild (k := 39) (n := 24) (i := y1) hx hb hK hP 30 29 rfl rfl h9i (by decide) dX12_finish_72 ?_
        refine hz_topi (fun x4_4 hx4_4 => ?_)
        have hw := hw x4_4 hx4_4
        refine lv_istore (lv' := [(4, .int (hz_i x4_4)), (0, .ref om), (1, .int (hz_i y1)), (2, .int (hz_i x2)), (3, .int (hz_i x3))]) hx hb dX12_finish_73 hl (by decide) rfl (fun ls hl => ?_)
        refine lv_aload_n hx hb dX12_finish_75 rfl (lv_at hl 1 rfl) ?_
        refine mw_get (v := .ref (R 28)) hx hb hts hin12 hown hK hP 28 (by decide) (hts (.fieldLink RX12 160 "HiddenMovesModel" "moves" "[I") (List.mem_cons_of_mem _ (List.mem_append_left _ (List.mem_of_getElem? (i := 4) rfl)))) (fun _ h9 => h9) rfl dX12_finish_76 ?_
        refine lv_bipush (v := hz_i 20) hx hb dX12_finish_79 (by decide +kernel) ?_
        refine lv_aload_n hx hb dX12_finish_81 rfl (lv_at hl 1 rfl) ?_
        refine mw_get (v := .int (hz_i (z 33))) hx hb hts hin12 hown hK hP 33 (by decide) (hts (.fieldLink RX12 172 "HiddenMovesModel" "draft" "I") (List.mem_cons_of_mem _ (List.mem_append_left _ (List.mem_of_getElem? (i := 5) rfl)))) (fun _ h9 => h9) rfl dX12_finish_82 ?_
        refine hz_imul hx hb dX12_finish_85 ?_
        refine lv_iload hx hb dX12_finish_86 (lv_at hl 0 rfl) ?_
        refine hz_iadd hx hb dX12_finish_88 ?_
        obtain ⟨h9i, hw⟩ := hw
        refine mw_ild (k := 28) (n := 40) (i := (20 * (z 33)) + x4_4) hx hb hK hP 24 23 rfl rfl h9i (by decide) dX12_finish_89 ?_
        obtain ⟨h9a, hw⟩ := hw
        refine hz_if_le (tgt := 123) hx hb dX12_finish_90 (by decide) h9a (fun c_5 => ?_) (fun c_5 => ?_)
        · have hw := hw.1 c_5
          exact L123 z A x2 x4_4 hw H locs ls hP hD hS (lv_sub hl [1, 3, 0] rfl)
        · have hw := hw.2 c_5
          refine lv_aload_n hx hb dX12_finish_93 rfl (lv_at hl 1 rfl) ?_
          refine mw_get (v := .ref (R 28)) hx hb hts hin12 hown hK hP 28 (by decide) (hts (.fieldLink RX12 160 "HiddenMovesModel" "moves" "[I") (List.mem_cons_of_mem _ (List.mem_append_left _ (List.mem_of_getElem? (i := 4) rfl)))) (fun _ h9 => h9) rfl dX12_finish_94 ?_
          refine lv_bipush (v := hz_i 20) hx hb dX12_finish_97 (by decide +kernel) ?_
          refine lv_aload_n hx hb dX12_finish_99 rfl (lv_at hl 1 rfl) ?_
          refine mw_get (v := .int (hz_i (z 33))) hx hb hts hin12 hown hK hP 33 (by decide) (hts (.fieldLink RX12 172 "HiddenMovesModel" "draft" "I") (List.mem_cons_of_mem _ (List.mem_append_left _ (List.mem_of_getElem? (i := 5) rfl)))) (fun _ h9 => h9) rfl dX12_finish_100 ?_
          refine hz_imul hx hb dX12_finish_103 ?_
          refine lv_iload hx hb dX12_finish_104 (lv_at hl 0 rfl) ?_
          refine hz_iadd hx hb dX12_finish_106 ?_
          obtain ⟨h9i, hw⟩ := hw
          refine mw_ild (k := 28) (n := 40) (i := (20 * (z 33)) + x4_4) hx hb hK hP 24 23 rfl rfl h9i (by decide) dX12_finish_107 ?_
          refine lv_iload_n hx hb dX12_finish_108 rfl (lv_at hl 3 rfl) ?_
          obtain ⟨h9a, hw⟩ := hw
          obtain ⟨h9b, hw⟩ := hw
          refine hz_icmp_eq (tgt := 123) hx hb dX12_finish_109 (by decide) h9a h9b (fun c_6 => ?_) (fun c_6 => ?_)
          · have hw := hw.1 c_6
            exact L123 z A x2 x4_4 hw H locs ls hP hD hS (lv_sub hl [1, 3, 0] rfl)
          · have hw := hw.2 c_6
            refine lv_aload_n hx hb dX12_finish_112 rfl (lv_at hl 1 rfl) ?_
            refine lv_iconst (v := hz_i 5) hx hb dX12_finish_113 (by decide +kernel) ?_
            refine lv_aload_n hx hb dX12_finish_114 rfl (lv_at hl 1 rfl) ?_
            refine mw_get (v := .ref (R 37)) hx hb hts hin12 hown hK hP 37 (by decide) (hts (.fieldLink RX12 175 "HiddenMovesModel" "openWord" "[I") (List.mem_cons_of_mem _ (List.mem_append_left _ (List.mem_of_getElem? (i := 2) rfl)))) (fun _ h9 => h9) rfl dX12_finish_115 ?_
            refine lv_iload_n hx hb dX12_finish_118 rfl (lv_at hl 2 rfl) ?_
            obtain ⟨h9i, hw⟩ := hw
            refine mw_ild (k := 37) (n := 24) (i := y1) hx hb hK hP 28 27 rfl rfl h9i (by decide) dX12_finish_119 ?_
            have hFc := mw_free hD hS hA
            refine va_callv (va_runV (As := [.int (hz_i 5), .int (hz_i (A 37 (y1.toNat)))]) (rest := []) ⟨hx, hb, hml, hown, hts⟩ (k_stop l D _ om R C z A 5 (A 37 (y1.toNat)) _ hw) (cwV 2 hts gX12_finish_X12_stop rfl rfl rfl (by decide +kernel) ⟨Nat.le_of_ble_eq_true rfl, Nat.le_of_ble_eq_true rfl⟩) ⟨hm_blind, va_recv hK hP (ci := 12) (q0 := 0) rfl rfl, hm_pre hP hK hD hE⟩ rfl rfl hl.1 rfl (lv_room (Nat.le_of_ble_eq_true rfl)) dX12_finish_120 ⟨Nat.le_of_ble_eq_true rfl, Nat.le_of_ble_eq_true rfl⟩) hS (fun q _ h => hFc q h) hFc (fun u t H1 locs ht hvm hw hB hz1 hk1 hS => ?_)
            obtain ⟨r_7, z_8, _⟩ := u
            obtain ⟨hP, hK1, hD1⟩ := hB
            rw [ht] at hP
            have hD := hD1.weaken (fun k q _ h => hFc q.1 h)
            have hP : va_P D vwCl (mw_w om R C z_8 A) H1 := hP
            have hD : va_D Ad (mw_w om R C z_8 A) := hD
            generalize H1 = H at hP hS ⊢
            refine W.eq (g2 := F0 m 123 ls []) rfl ?_
            exact L123 z_8 A x2 x4_4 hw H locs ls hP hD hS (lv_sub hl [1, 3, 0] rfl)
      · have hw := hw.2 c_3
        refine lv_aload_n hx hb dX12_finish_58 rfl (lv_at hl 0 rfl) ?_
        refine lv_iload_n hx hb dX12_finish_59 rfl (lv_at hl 1 rfl) ?_
        refine lv_iload_n hx hb dX12_finish_60 rfl (lv_at hl 2 rfl) ?_
        have hFc := mw_free hD hS hA
        refine va_callv (va_runV (As := [.int (hz_i y1), .int (hz_i x2)]) (rest := []) ⟨hx, hb, hml, hown, hts⟩ (k_together l D _ om R C z A y1 x2 _ hw) (cwV 2 hts gX12_finish_X12_together rfl rfl rfl (by decide +kernel) ⟨Nat.le_of_ble_eq_true rfl, Nat.le_of_ble_eq_true rfl⟩) ⟨hm_blind, va_recv hK hP (ci := 12) (q0 := 0) rfl rfl, hm_pre hP hK hD hE⟩ rfl rfl hl.1 rfl (lv_room (Nat.le_of_ble_eq_true rfl)) dX12_finish_61 ⟨Nat.le_of_ble_eq_true rfl, Nat.le_of_ble_eq_true rfl⟩) hS (fun q _ h => hFc q h) hFc (fun u t H1 locs ht hvm hw hB hz1 hk1 hS => ?_)
        obtain ⟨r_9, z_10, _⟩ := u
        obtain ⟨hP, hK1, hD1⟩ := hB
        rw [ht] at hP
        have hD := hD1.weaken (fun k q _ h => hFc q.1 h)
        have hP : va_P D vwCl (mw_w om R C z_10 A) H1 := hP
        have hD : va_D Ad (mw_w om R C z_10 A) := hD
        generalize H1 = H at hP hS ⊢
        refine W.eq (g2 := F0 m 64 ls []) rfl ?_
        refine lv_goto (tgt := 139) hx hb dX12_finish_64 (by decide) ?_
        exact L139 z_10 A hw H locs ls hP hD hS (lv_sub hl [0] rfl)
    · have hw := hw.2 c_2
      refine lv_aload_n hx hb dX12_finish_40 rfl (lv_at hl 0 rfl) ?_
      refine lv_iconst (v := hz_i 2) hx hb dX12_finish_41 (by decide +kernel) ?_
      refine lv_aload_n hx hb dX12_finish_42 rfl (lv_at hl 0 rfl) ?_
      refine mw_get (v := .ref (R 37)) hx hb hts hin12 hown hK hP 37 (by decide) (hts (.fieldLink RX12 175 "HiddenMovesModel" "openWord" "[I") (List.mem_cons_of_mem _ (List.mem_append_left _ (List.mem_of_getElem? (i := 2) rfl)))) (fun _ h9 => h9) rfl dX12_finish_43 ?_
      refine lv_iload_n hx hb dX12_finish_46 rfl (lv_at hl 1 rfl) ?_
      obtain ⟨h9i, hw⟩ := hw
      refine mw_ild (k := 37) (n := 24) (i := y1) hx hb hK hP 28 27 rfl rfl h9i (by decide) dX12_finish_47 ?_
      have hFc := mw_free hD hS hA
      refine va_callv (va_runV (As := [.int (hz_i 2), .int (hz_i (A 37 (y1.toNat)))]) (rest := []) ⟨hx, hb, hml, hown, hts⟩ (k_stop l D _ om R C z A 2 (A 37 (y1.toNat)) _ hw) (cwV 2 hts gX12_finish_X12_stop rfl rfl rfl (by decide +kernel) ⟨Nat.le_of_ble_eq_true rfl, Nat.le_of_ble_eq_true rfl⟩) ⟨hm_blind, va_recv hK hP (ci := 12) (q0 := 0) rfl rfl, hm_pre hP hK hD hE⟩ rfl rfl hl.1 rfl (lv_room (Nat.le_of_ble_eq_true rfl)) dX12_finish_48 ⟨Nat.le_of_ble_eq_true rfl, Nat.le_of_ble_eq_true rfl⟩) hS (fun q _ h => hFc q h) hFc (fun u t H1 locs ht hvm hw hB hz1 hk1 hS => ?_)
      obtain ⟨r_11, z_12, _⟩ := u
      obtain ⟨hP, hK1, hD1⟩ := hB
      rw [ht] at hP
      have hD := hD1.weaken (fun k q _ h => hFc q.1 h)
      have hP : va_P D vwCl (mw_w om R C z_12 A) H1 := hP
      have hD : va_D Ad (mw_w om R C z_12 A) := hD
      generalize H1 = H at hP hS ⊢
      refine W.eq (g2 := F0 m 51 ls []) rfl ?_
      refine lv_goto (tgt := 139) hx hb dX12_finish_51 (by decide) ?_
      exact L139 z_12 A hw H locs ls hP hD hS (lv_sub hl [0] rfl)
  have L25 : ∀ (z : Nat → Int) (A : Nat → Nat → Int) (x2 : Int) (t0 : Int), wp_finish_25 z A y1 x2 t0  Q → ∀ (H : Heap) (locs : List Loc) (ls : Array Slot), va_P D vwCl (mw_w om R C z A) H → va_D Ad (mw_w om R C z A) → va_S Ad s.heap H locs → lv_has ls 5 [(0, .ref om), (1, .int (hz_i y1)), (2, .int (hz_i x2))] → W p l e (headSpec wsX12_finish ({ frames := 2, cells := 0, slots := 0, locals := 56 } : Room)).room s m (List.toArray [.ref om, .int (hz_i y1)]) below meth c H locs 0 0 QQ (F0 m 25 ls [.int (hz_i t0)]) := by
    intro z A x2 t0 hw H locs ls hP hD hS hl
    refine lv_istore_n (lv' := [(3, .int (hz_i t0)), (0, .ref om), (1, .int (hz_i y1)), (2, .int (hz_i x2))]) hx hb dX12_finish_25 rfl hl (by decide) rfl (fun ls hl => ?_)
    refine lv_iload_n hx hb dX12_finish_26 rfl (lv_at hl 3 rfl) ?_
    refine lv_iload_n hx hb dX12_finish_27 rfl (lv_at hl 0 rfl) ?_
    obtain ⟨h9a, hw⟩ := hw
    refine hz_if_eq (tgt := 36) hx hb dX12_finish_28 (by decide) h9a (fun c_13 => ?_) (fun c_13 => ?_)
    · have hw := hw.1 c_13
      refine lv_iconst (v := hz_i 4) hx hb dX12_finish_36 (by decide +kernel) ?_
      exact L37 z A x2 t0 4 x2 hw H locs ls hP hD hS (lv_sub hl [1, 2, 3, 0] rfl)
    · have hw := hw.2 c_13
      refine lv_bipush (v := hz_i 8) hx hb dX12_finish_31 (by decide +kernel) ?_
      refine lv_goto (tgt := 37) hx hb dX12_finish_33 (by decide) ?_
      exact L37 z A x2 t0 8 x2 hw H locs ls hP hD hS (lv_sub hl [1, 2, 3, 0] rfl)
  have hP := hP0; have hD := hD0; have hS := hS0; have hl := hl0; have hw := hw0
  obtain ⟨H, hH⟩ : ∃ H : Heap, H = s.heap := ⟨_, rfl⟩
  obtain ⟨locs, hlocs⟩ : ∃ L : List Loc, L = [] := ⟨_, rfl⟩
  rw [← hH] at hP
  have hS : va_S Ad s.heap H locs := by rw [hH, hlocs]; exact hS
  refine mw_HL hH hlocs ?_
  refine lv_aload_n hx hb dX12_finish_0 rfl (lv_at hl 0 rfl) ?_
  refine mw_get (v := .ref (R 40)) hx hb hts hin12 hown hK hP 40 (by decide) (hts (.fieldLink RX12 184 "HiddenMovesModel" "openMoves" "[I") (List.mem_cons_of_mem _ (List.mem_append_left _ (List.mem_of_getElem? (i := 0) rfl)))) (fun _ h9 => h9) rfl dX12_finish_1 ?_
  refine lv_iload_n hx hb dX12_finish_4 rfl (lv_at hl 1 rfl) ?_
  obtain ⟨h9i, hw⟩ := hw
  refine mw_ild (k := 40) (n := 24) (i := y1) hx hb hK hP 31 30 rfl rfl h9i (by decide) dX12_finish_5 ?_
  refine lv_iconst (v := hz_i 1) hx hb dX12_finish_6 (by decide +kernel) ?_
  refine hz_iadd hx hb dX12_finish_7 ?_
  refine hz_topi (fun x2_14 hx2_14 => ?_)
  have hw := hw x2_14 hx2_14
  refine lv_istore_n (lv' := [(2, .int (hz_i x2_14)), (0, .ref om), (1, .int (hz_i y1))]) hx hb dX12_finish_8 rfl hl (by decide) rfl (fun ls hl => ?_)
  refine lv_aload_n hx hb dX12_finish_9 rfl (lv_at hl 1 rfl) ?_
  refine mw_get (v := .ref (R 38)) hx hb hts hin12 hown hK hP 38 (by decide) (hts (.fieldLink RX12 178 "HiddenMovesModel" "openKind" "[I") (List.mem_cons_of_mem _ (List.mem_append_left _ (List.mem_of_getElem? (i := 1) rfl)))) (fun _ h9 => h9) rfl dX12_finish_10 ?_
  refine lv_iload_n hx hb dX12_finish_13 rfl (lv_at hl 2 rfl) ?_
  obtain ⟨h9i, hw⟩ := hw
  refine mw_ild (k := 38) (n := 24) (i := y1) hx hb hK hP 29 28 rfl rfl h9i (by decide) dX12_finish_14 ?_
  refine lv_bipush (v := hz_i 63) hx hb dX12_finish_15 (by decide +kernel) ?_
  obtain ⟨h9a, hw⟩ := hw
  refine hz_icmp_ne (tgt := 24) hx hb dX12_finish_17 (by decide) h9a ⟨by decide, by decide⟩ (fun c_15 => ?_) (fun c_15 => ?_)
  · have hw := hw.1 c_15
    refine lv_iconst (v := hz_i 0) hx hb dX12_finish_24 (by decide +kernel) ?_
    exact L25 z A x2_14 0 hw H locs ls hP hD hS (lv_sub hl [1, 2, 0] rfl)
  · have hw := hw.2 c_15
    refine lv_iconst (v := hz_i 1) hx hb dX12_finish_20 (by decide +kernel) ?_
    refine lv_goto (tgt := 25) hx hb dX12_finish_21 (by decide) ?_
    exact L25 z A x2_14 1 hw H locs ls hP hD hS (lv_sub hl [1, 2, 0] rfl)

noncomputable def wp_goOn_193 (z : Nat → Int) (A : Nat → Nat → Int) (y1 : Int) (x2 : Int) (Q : (Nat → Int) → (Nat → Nat → Int) → Prop) : Prop := ∀ z_1 : Nat → Int, z_1 = lp_U z 46 ((z 46) + 1) → (0 ≤ y1 ∧ y1 < 24) ∧ ¬ x2 = 0 ∧ hz_rL (z_1 47) ∧ hz_rL x2 ∧ (0 ≤ y1 ∧ y1 < 24) ∧ ¬ x2 = 0 ∧ hz_rL (z_1 48) ∧ hz_rL x2 ∧ wp_beginNode z_1 A ((A 41 (y1.toNat)) * ((z_1 47).tdiv x2)) ((A 42 (y1.toNat)) * ((z_1 48).tdiv x2)) (fun z_3 A_4 => Q z_3 A_4)
noncomputable def wp_goOn_72 (z : Nat → Int) (A : Nat → Nat → Int) (y1 : Int) (t0 : Int) (Q : (Nat → Int) → (Nat → Nat → Int) → Prop) : Prop := ∀ z_5 : Nat → Int, z_5 = lp_U z 46 t0 → (0 ≤ y1 ∧ y1 < 24) ∧ (0 ≤ y1 ∧ y1 < 24) ∧ ∀ A_6 : Nat → Nat → Int, A_6 = hz_s A 40 y1 ((A 40 (y1.toNat)) + 1) → (0 ≤ y1 ∧ y1 < 24) ∧ hz_rI (A_6 38 (y1.toNat)) ∧ ((A_6 38 (y1.toNat) = 63 → wp_fraction z_5 A_6 1 (fun z_9 => hz_rI (z_9 35) ∧ ((z_9 35 = 0 → wp_divisor z_9 A_6 (z_9 47) (z_9 48) (fun r_11 => (0 ≤ y1 ∧ y1 < 24) ∧ hz_rI (A_6 40 (y1.toNat)) ∧ ((8 ≤ A_6 40 (y1.toNat) → wp_goOn_193 z_9 A_6 y1 r_11  Q) ∧ (¬ (8 ≤ A_6 40 (y1.toNat)) → (0 ≤ y1 ∧ y1 < 24) ∧ ¬ r_11 = 0 ∧ hz_rL (z_9 47) ∧ hz_rL r_11 ∧ (0 ≤ (9 * y1) + (A_6 40 (y1.toNat)) ∧ (9 * y1) + (A_6 40 (y1.toNat)) < 216) ∧ ∀ A_13 : Nat → Nat → Int, A_13 = hz_s A_6 43 ((9 * y1) + (A_6 40 (y1.toNat))) ((z_9 47).tdiv r_11) → (0 ≤ y1 ∧ y1 < 24) ∧ ¬ r_11 = 0 ∧ hz_rL (z_9 48) ∧ hz_rL r_11 ∧ (0 ≤ (9 * y1) + (A_13 40 (y1.toNat)) ∧ (9 * y1) + (A_13 40 (y1.toNat)) < 216) ∧ ∀ A_14 : Nat → Nat → Int, A_14 = hz_s A_13 44 ((9 * y1) + (A_13 40 (y1.toNat))) ((z_9 48).tdiv r_11) → wp_goOn_193 z_9 A_14 y1 r_11  Q)))) ∧ (¬ (z_9 35 = 0) → Q z_9 A_6)))) ∧ (¬ (A_6 38 (y1.toNat) = 63) → (0 ≤ y1 ∧ y1 < 24) ∧ (0 ≤ y1 ∧ y1 < 24) ∧ wp_beginNode z_5 A_6 (A_6 41 (y1.toNat)) (A_6 42 (y1.toNat)) (fun z_16 A_17 => Q z_16 A_17)))
noncomputable def wp_goOn_49 (z : Nat → Int) (A : Nat → Nat → Int) (y1 : Int) (Q : (Nat → Int) → (Nat → Nat → Int) → Prop) : Prop := (0 ≤ y1 ∧ y1 < 24) ∧ hz_rI (A 40 (y1.toNat)) ∧ ((A 40 (y1.toNat) < 0 → wp_goOn_72 z A y1 (z 46)  Q) ∧ (¬ (A 40 (y1.toNat) < 0) → wp_goOn_72 z A y1 ((z 46) + 1)  Q))
noncomputable def wp_goOn (z : Nat → Int) (A : Nat → Nat → Int) (y1 : Int) (Q : (Nat → Int) → (Nat → Nat → Int) → Prop) : Prop := (0 ≤ y1 ∧ y1 < 24) ∧ hz_rI (A 40 (y1.toNat)) ∧ ((A 40 (y1.toNat) < 0 → wp_goOn_49 z A y1  Q) ∧ (¬ (A 40 (y1.toNat) < 0) → (0 ≤ z 46 ∧ z 46 < 4001) ∧ hz_rI (A 7 ((z 46).toNat)) ∧ ((A 7 ((z 46).toNat) = 44 → wp_goOn_49 z A y1  Q) ∧ (¬ (A 7 ((z 46).toNat) = 44) → wp_finish z A y1 (fun z_22 A_23 => ∀ z_24 : Nat → Int, z_24 = lp_U z_22 46 ((z_22 46) + 1) → ∀ z_25 : Nat → Int, z_25 = lp_U z_24 45 ((z_24 45) - 1) → Q z_25 A_23)))))
set_option maxHeartbeats 4000000 in
set_option maxRecDepth 100000 in
theorem k_goOn (l : Launch) (D : va_G) (sz : Nat) (om : Nat) (R : Nat → Nat) (C : Nat → ClassId) (z : Nat → Int) (A : Nat → Nat → Int) (y1 : Int) (Q : (Nat → Int) → (Nat → Nat → Int) → Prop) (hw : wp_goOn z A y1 Q) : Met l yX12_goOn wsX12_goOn ({ frames := 3, cells := 0, slots := 0, locals := 90 } : Room) (va_Pc [.ref om, .int (hz_i y1)] (hm_P D (mw_w om R C z A) (mw_t C) sz)) (va_Qv (S := Int × (Nat → Int) × (Nat → Nat → Int)) (fun u => Q u.2.1 u.2.2) (fun u t => hm_B D (va_A (mw_w om R C z A) sz) (mw_w om R C u.2.1 u.2.2) (mw_t C) t) (va_A (mw_w om R C z A) sz)) 0 0 (va_A (mw_w om R C z A) sz) := by
  refine Met.ofW (cc := cX12_goOn) (maxL := 4) (ret := none) (by decide) rfl ?_
  intro p e s m args below meth c s₁ B hml hv
  obtain ⟨rfl, hsz, hP, hK, hD0, hE⟩ := hv
  have hx := B.exec
  have hb := B.bytes
  have hr := B.returns
  have hts := atoms_spec (ws := wsX12_goOn) B.pre
  have hown : s.vm.findClass RX12 = some m.cls := findClass_of_methodNamed B.named
  have hlocks := B.notSynchronized
  have hin12 : ∀ w ∈ u_ws RX12 TX12 58, w ∈ wsX12_goOn := fun w h => List.mem_cons_of_mem _ (List.mem_append_right _ (h))
  subst hsz
  have hD := hD0.self (sz := s.heap.size)
  generalize hAe : va_A (mw_w om R C z A) s.heap.size = Ad at hD ⊢
  have hA : ∀ q : Nat, s.heap.size ≤ q → Ad q := fun q h => by rw [← hAe]; exact Or.inr h
  have hS : va_S Ad s.heap s.heap [] := va_S.rf
  have hl := lv_entry ([.ref om, .int (hz_i y1)]) (n := 4) (Nat.le_of_ble_eq_true rfl)
  rw [lg_entry_eq]
  generalize (lg_sl ([.ref om, .int (hz_i y1)]) ++ List.replicate (4 - (lg_sl ([.ref om, .int (hz_i y1)])).length) Slot.unset).toArray = ls at hl ⊢
  have hl : lv_has ls 4 [(0, .ref om), (1, .int (hz_i y1))] := hl
  refine mw_Q (fun QQ hQQ => ?_)
  have hP0 := hP; have hD0 := hD; have hS0 := hS; have hl0 := hl; have hw0 := hw
  clear hP hD hS hl hw
  have L193 : ∀ (z : Nat → Int) (A : Nat → Nat → Int) (x2 : Int), wp_goOn_193 z A y1 x2  Q → ∀ (H : Heap) (locs : List Loc) (ls : Array Slot), va_P D vwCl (mw_w om R C z A) H → va_D Ad (mw_w om R C z A) → va_S Ad s.heap H locs → lv_has ls 4 [(0, .ref om), (1, .int (hz_i y1)), (2, .long (hz_l x2))] → W p l e (headSpec wsX12_goOn ({ frames := 3, cells := 0, slots := 0, locals := 90 } : Room)).room s m (List.toArray [.ref om, .int (hz_i y1)]) below meth c H locs 0 0 QQ (F0 m 193 ls []) := by
    intro z A x2 hw H locs ls hP hD hS hl
    refine lv_aload_n hx hb dX12_goOn_193 rfl (lv_at hl 0 rfl) ?_
    refine lv_dup hx hb dX12_goOn_194 rfl ?_
    refine mw_get (v := .int (hz_i (z 46))) hx hb hts hin12 hown hK hP 46 (by decide) (hts (.fieldLink RX12 262 "HiddenMovesModel" "at" "I") (List.mem_cons_of_mem _ (List.mem_append_left _ (List.mem_append_left _ (List.mem_of_getElem? (i := 2) rfl))))) (fun _ h9 => h9) rfl dX12_goOn_195 ?_
    refine lv_iconst (v := hz_i 1) hx hb dX12_goOn_198 (by decide +kernel) ?_
    refine hz_iadd hx hb dX12_goOn_199 ?_
    refine mw_put (ty := .int) (v := .int (hz_i ((z 46) + 1))) hx hb hts hin12 hown hK hP hD hS 46 (by decide) (hts (.fieldLink RX12 262 "HiddenMovesModel" "at" "I") (List.mem_cons_of_mem _ (List.mem_append_left _ (List.mem_append_left _ (List.mem_of_getElem? (i := 2) rfl))))) (fun _ h9 => h9) rfl (by decide +kernel) rfl rfl (mw_s46 R z ((z 46) + 1)) dX12_goOn_200 (fun H locs hP hD hS => ?_)
    obtain ⟨z_1, hz_1⟩ : ∃ y : Nat → Int, y = lp_U z 46 ((z 46) + 1) := ⟨_, rfl⟩
    rw [← hz_1] at hP hD
    have hw := hw z_1 hz_1
    refine lv_aload_n hx hb dX12_goOn_203 rfl (lv_at hl 0 rfl) ?_
    refine lv_aload_n hx hb dX12_goOn_204 rfl (lv_at hl 0 rfl) ?_
    refine mw_get (v := .ref (R 41)) hx hb hts hin12 hown hK hP 41 (by decide) (hts (.fieldLink RX12 187 "HiddenMovesModel" "openTop" "[J") (List.mem_cons_of_mem _ (List.mem_append_left _ (List.mem_append_left _ (List.mem_of_getElem? (i := 5) rfl))))) (fun _ h9 => h9) rfl dX12_goOn_205 ?_
    refine lv_iload_n hx hb dX12_goOn_208 rfl (lv_at hl 1 rfl) ?_
    obtain ⟨h9i, hw⟩ := hw
    refine mw_lld (k := 41) (n := 24) (i := y1) hx hb hK hP 32 31 rfl rfl h9i (by decide) dX12_goOn_209 ?_
    refine lv_aload_n hx hb dX12_goOn_210 rfl (lv_at hl 0 rfl) ?_
    refine mw_get (v := .long (hz_l (z_1 47))) hx hb hts hin12 hown hK hP 47 (by decide) (hts (.fieldLink RX12 265 "HiddenMovesModel" "readTop" "J") (List.mem_cons_of_mem _ (List.mem_append_left _ (List.mem_append_left _ (List.mem_of_getElem? (i := 8) rfl))))) (fun _ h9 => h9) rfl dX12_goOn_211 ?_
    refine lv_lload_n hx hb dX12_goOn_214 rfl (lv_at hl 2 rfl) ?_
    obtain ⟨h9n, h9a, h9b, hw⟩ := hw
    refine hz_ldiv hx hb dX12_goOn_215 h9n h9a h9b ?_
    refine hz_lmul hx hb dX12_goOn_216 ?_
    refine lv_aload_n hx hb dX12_goOn_217 rfl (lv_at hl 0 rfl) ?_
    refine mw_get (v := .ref (R 42)) hx hb hts hin12 hown hK hP 42 (by decide) (hts (.fieldLink RX12 190 "HiddenMovesModel" "openBottom" "[J") (List.mem_cons_of_mem _ (List.mem_append_left _ (List.mem_append_left _ (List.mem_of_getElem? (i := 6) rfl))))) (fun _ h9 => h9) rfl dX12_goOn_218 ?_
    refine lv_iload_n hx hb dX12_goOn_221 rfl (lv_at hl 1 rfl) ?_
    obtain ⟨h9i, hw⟩ := hw
    refine mw_lld (k := 42) (n := 24) (i := y1) hx hb hK hP 33 32 rfl rfl h9i (by decide) dX12_goOn_222 ?_
    refine lv_aload_n hx hb dX12_goOn_223 rfl (lv_at hl 0 rfl) ?_
    refine mw_get (v := .long (hz_l (z_1 48))) hx hb hts hin12 hown hK hP 48 (by decide) (hts (.fieldLink RX12 269 "HiddenMovesModel" "readBottom" "J") (List.mem_cons_of_mem _ (List.mem_append_left _ (List.mem_append_left _ (List.mem_of_getElem? (i := 9) rfl))))) (fun _ h9 => h9) rfl dX12_goOn_224 ?_
    refine lv_lload_n hx hb dX12_goOn_227 rfl (lv_at hl 2 rfl) ?_
    obtain ⟨h9n, h9a, h9b, hw⟩ := hw
    refine hz_ldiv hx hb dX12_goOn_228 h9n h9a h9b ?_
    refine hz_lmul hx hb dX12_goOn_229 ?_
    have hFc := mw_free hD hS hA
    refine va_callv (va_runV (As := [.long (hz_l ((A 41 (y1.toNat)) * ((z_1 47).tdiv x2))), .long (hz_l ((A 42 (y1.toNat)) * ((z_1 48).tdiv x2)))]) (rest := []) ⟨hx, hb, hml, hown, hts⟩ (k_beginNode l D _ om R C z_1 A ((A 41 (y1.toNat)) * ((z_1 47).tdiv x2)) ((A 42 (y1.toNat)) * ((z_1 48).tdiv x2)) _ hw) (cwV 2 hts gX12_goOn_X12_beginNode rfl rfl rfl (by decide +kernel) ⟨Nat.le_of_ble_eq_true rfl, Nat.le_of_ble_eq_true rfl⟩) ⟨hm_blind, va_recv hK hP (ci := 12) (q0 := 0) rfl rfl, hm_pre hP hK hD hE⟩ rfl rfl hl.1 rfl (lv_room (Nat.le_of_ble_eq_true rfl)) dX12_goOn_230 ⟨Nat.le_of_ble_eq_true rfl, Nat.le_of_ble_eq_true rfl⟩) hS (fun q _ h => hFc q h) hFc (fun u t H1 locs ht hvm hw hB hz1 hk1 hS => ?_)
    obtain ⟨r_2, z_3, A_4⟩ := u
    obtain ⟨hP, hK1, hD1⟩ := hB
    rw [ht] at hP
    have hD := hD1.weaken (fun k q _ h => hFc q.1 h)
    have hP : va_P D vwCl (mw_w om R C z_3 A_4) H1 := hP
    have hD : va_D Ad (mw_w om R C z_3 A_4) := hD
    generalize H1 = H at hP hS ⊢
    refine W.eq (g2 := F0 m 233 ls []) rfl ?_
    subst hQQ
    subst hAe
    exact W.vret hx hb hr (fun t ht hW => ⟨⟨(0, z_3, A_4), rfl, hw, by rw [ht]; exact hP, va_K.moved hW.alike hK, hD⟩, hS.F ht⟩) hS.2.2 dX12_goOn_233
  have L72 : ∀ (z : Nat → Int) (A : Nat → Nat → Int) (t0 : Int), wp_goOn_72 z A y1 t0  Q → ∀ (H : Heap) (locs : List Loc) (ls : Array Slot), va_P D vwCl (mw_w om R C z A) H → va_D Ad (mw_w om R C z A) → va_S Ad s.heap H locs → lv_has ls 4 [(0, .ref om), (1, .int (hz_i y1))] → W p l e (headSpec wsX12_goOn ({ frames := 3, cells := 0, slots := 0, locals := 90 } : Room)).room s m (List.toArray [.ref om, .int (hz_i y1)]) below meth c H locs 0 0 QQ (F0 m 72 ls [.int (hz_i t0), .ref om]) := by
    intro z A t0 hw H locs ls hP hD hS hl
    refine mw_put (ty := .int) (v := .int (hz_i t0)) hx hb hts hin12 hown hK hP hD hS 46 (by decide) (hts (.fieldLink RX12 262 "HiddenMovesModel" "at" "I") (List.mem_cons_of_mem _ (List.mem_append_left _ (List.mem_append_left _ (List.mem_of_getElem? (i := 2) rfl))))) (fun _ h9 => h9) rfl (by decide +kernel) rfl rfl (mw_s46 R z t0) dX12_goOn_72 (fun H locs hP hD hS => ?_)
    obtain ⟨z_5, hz_5⟩ : ∃ y : Nat → Int, y = lp_U z 46 t0 := ⟨_, rfl⟩
    rw [← hz_5] at hP hD
    have hw := hw z_5 hz_5
    refine lv_aload_n hx hb dX12_goOn_75 rfl (lv_at hl 0 rfl) ?_
    refine mw_get (v := .ref (R 40)) hx hb hts hin12 hown hK hP 40 (by decide) (hts (.fieldLink RX12 184 "HiddenMovesModel" "openMoves" "[I") (List.mem_cons_of_mem _ (List.mem_append_left _ (List.mem_append_left _ (List.mem_of_getElem? (i := 0) rfl))))) (fun _ h9 => h9) rfl dX12_goOn_76 ?_
    refine lv_iload_n hx hb dX12_goOn_79 rfl (lv_at hl 1 rfl) ?_
    refine lv_dup2_11 hx hb dX12_goOn_80 rfl rfl ?_
    obtain ⟨h9i, hw⟩ := hw
    refine mw_ild (k := 40) (n := 24) (i := y1) hx hb hK hP 31 30 rfl rfl h9i (by decide) dX12_goOn_81 ?_
    refine lv_iconst (v := hz_i 1) hx hb dX12_goOn_82 (by decide +kernel) ?_
    refine hz_iadd hx hb dX12_goOn_83 ?_
    obtain ⟨h9i, hw⟩ := hw
    refine mw_ist (k := 40) (n := 24) (i := y1) (v := (A 40 (y1.toNat)) + 1) hx hb hK hP hD hS 31 30 rfl rfl (mw_a40 om R C z_5 A) h9i (by decide) dX12_goOn_84 (fun H locs hP hD hS => ?_)
    obtain ⟨A_6, hA_6⟩ : ∃ y : Nat → Nat → Int, y = hz_s A 40 y1 ((A 40 (y1.toNat)) + 1) := ⟨_, rfl⟩
    rw [← hA_6] at hP hD
    have hw := hw A_6 hA_6
    refine lv_aload_n hx hb dX12_goOn_85 rfl (lv_at hl 0 rfl) ?_
    refine mw_get (v := .ref (R 38)) hx hb hts hin12 hown hK hP 38 (by decide) (hts (.fieldLink RX12 178 "HiddenMovesModel" "openKind" "[I") (List.mem_cons_of_mem _ (List.mem_append_left _ (List.mem_append_left _ (List.mem_of_getElem? (i := 4) rfl))))) (fun _ h9 => h9) rfl dX12_goOn_86 ?_
    refine lv_iload_n hx hb dX12_goOn_89 rfl (lv_at hl 1 rfl) ?_
    obtain ⟨h9i, hw⟩ := hw
    refine mw_ild (k := 38) (n := 24) (i := y1) hx hb hK hP 29 28 rfl rfl h9i (by decide) dX12_goOn_90 ?_
    refine lv_bipush (v := hz_i 63) hx hb dX12_goOn_91 (by decide +kernel) ?_
    obtain ⟨h9a, hw⟩ := hw
    refine hz_icmp_eq (tgt := 113) hx hb dX12_goOn_93 (by decide) h9a ⟨by decide, by decide⟩ (fun c_7 => ?_) (fun c_7 => ?_)
    · have hw := hw.1 c_7
      refine lv_aload_n hx hb dX12_goOn_113 rfl (lv_at hl 0 rfl) ?_
      refine lv_iconst (v := hz_i 1) hx hb dX12_goOn_114 (by decide +kernel) ?_
      have hFc := mw_free hD hS hA
      refine va_callv (va_runV (As := [.int (hz_i 1)]) (rest := []) ⟨hx, hb, hml, hown, hts⟩ (k_fraction l D _ om R C z_5 A_6 1 _ hw) (cwV 1 hts gX12_goOn_X12_fraction rfl rfl rfl (by decide +kernel) ⟨Nat.le_of_ble_eq_true rfl, Nat.le_of_ble_eq_true rfl⟩) ⟨hm_blind, va_recv hK hP (ci := 12) (q0 := 0) rfl rfl, hm_pre hP hK hD hE⟩ rfl rfl hl.1 rfl (lv_room (Nat.le_of_ble_eq_true rfl)) dX12_goOn_115 ⟨Nat.le_of_ble_eq_true rfl, Nat.le_of_ble_eq_true rfl⟩) hS (fun q _ h => hFc q h) hFc (fun u t H1 locs ht hvm hw hB hz1 hk1 hS => ?_)
      obtain ⟨r_8, z_9, _⟩ := u
      obtain ⟨hP, hK1, hD1⟩ := hB
      rw [ht] at hP
      have hD := hD1.weaken (fun k q _ h => hFc q.1 h)
      have hP : va_P D vwCl (mw_w om R C z_9 A_6) H1 := hP
      have hD : va_D Ad (mw_w om R C z_9 A_6) := hD
      generalize H1 = H at hP hS ⊢
      refine W.eq (g2 := F0 m 118 ls []) rfl ?_
      refine lv_aload_n hx hb dX12_goOn_118 rfl (lv_at hl 0 rfl) ?_
      refine mw_get (v := .int (hz_i (z_9 35))) hx hb hts hin12 hown hK hP 35 (by decide) (hts (.fieldLink RX12 256 "HiddenMovesModel" "fault" "I") (List.mem_cons_of_mem _ (List.mem_append_left _ (List.mem_append_left _ (List.mem_of_getElem? (i := 7) rfl))))) (fun _ h9 => h9) rfl dX12_goOn_119 ?_
      obtain ⟨h9a, hw⟩ := hw
      refine hz_if_eq (tgt := 126) hx hb dX12_goOn_122 (by decide) h9a (fun c_10 => ?_) (fun c_10 => ?_)
      · have hw := hw.1 c_10
        refine lv_aload_n hx hb dX12_goOn_126 rfl (lv_at hl 0 rfl) ?_
        refine mw_get (v := .long (hz_l (z_9 47))) hx hb hts hin12 hown hK hP 47 (by decide) (hts (.fieldLink RX12 265 "HiddenMovesModel" "readTop" "J") (List.mem_cons_of_mem _ (List.mem_append_left _ (List.mem_append_left _ (List.mem_of_getElem? (i := 8) rfl))))) (fun _ h9 => h9) rfl dX12_goOn_127 ?_
        refine lv_aload_n hx hb dX12_goOn_130 rfl (lv_at hl 0 rfl) ?_
        refine mw_get (v := .long (hz_l (z_9 48))) hx hb hts hin12 hown hK hP 48 (by decide) (hts (.fieldLink RX12 269 "HiddenMovesModel" "readBottom" "J") (List.mem_cons_of_mem _ (List.mem_append_left _ (List.mem_append_left _ (List.mem_of_getElem? (i := 9) rfl))))) (fun _ h9 => h9) rfl dX12_goOn_131 ?_
        have hFc := mw_free hD hS hA
        refine va_calll (va_runS (As := [.long (hz_l (z_9 47)), .long (hz_l (z_9 48))]) (rest := []) ⟨hx, hb, hml, hown, hts⟩ (k_divisor l D _ om R C z_9 A_6 (z_9 47) (z_9 48) _ hw) (va_cwS 2 hts gX12_goOn_X12_divisor rfl rfl rfl (by decide +kernel) ⟨Nat.le_of_ble_eq_true rfl, Nat.le_of_ble_eq_true rfl⟩) ⟨hm_blind, hm_pre hP hK hD hE⟩ rfl rfl hl.1 rfl (lv_room (Nat.le_of_ble_eq_true rfl)) dX12_goOn_134 ⟨Nat.le_of_ble_eq_true rfl, Nat.le_of_ble_eq_true rfl⟩) hS (fun q _ h => hFc q h) hFc (fun rv u t H1 locs ht hvm hw hB hz1 hk1 hS => ?_)
        obtain ⟨r_11, _, _⟩ := u
        obtain ⟨hP, hK1, hD1⟩ := hB
        rw [ht] at hP
        obtain ⟨hrv, hw⟩ := hw
        subst hrv
        have hD := hD1.weaken (fun k q _ h => hFc q.1 h)
        have hP : va_P D vwCl (mw_w om R C z_9 A_6) H1 := hP
        have hD : va_D Ad (mw_w om R C z_9 A_6) := hD
        generalize H1 = H at hP hS ⊢
        refine W.eq (g2 := F0 m 137 ls [.long (hz_l r_11)]) rfl ?_
        refine lv_lstore_n (lv' := [(2, .long (hz_l r_11)), (0, .ref om), (1, .int (hz_i y1))]) hx hb dX12_goOn_137 rfl hl (by decide) rfl (fun ls hl => ?_)
        refine lv_aload_n hx hb dX12_goOn_138 rfl (lv_at hl 1 rfl) ?_
        refine mw_get (v := .ref (R 40)) hx hb hts hin12 hown hK hP 40 (by decide) (hts (.fieldLink RX12 184 "HiddenMovesModel" "openMoves" "[I") (List.mem_cons_of_mem _ (List.mem_append_left _ (List.mem_append_left _ (List.mem_of_getElem? (i := 0) rfl))))) (fun _ h9 => h9) rfl dX12_goOn_139 ?_
        refine lv_iload_n hx hb dX12_goOn_142 rfl (lv_at hl 2 rfl) ?_
        obtain ⟨h9i, hw⟩ := hw
        refine mw_ild (k := 40) (n := 24) (i := y1) hx hb hK hP 31 30 rfl rfl h9i (by decide) dX12_goOn_143 ?_
        refine lv_bipush (v := hz_i 8) hx hb dX12_goOn_144 (by decide +kernel) ?_
        obtain ⟨h9a, hw⟩ := hw
        refine hz_icmp_ge (tgt := 193) hx hb dX12_goOn_146 (by decide) h9a ⟨by decide, by decide⟩ (fun c_12 => ?_) (fun c_12 => ?_)
        · have hw := hw.1 c_12
          exact L193 z_9 A_6 r_11 hw H locs ls hP hD hS (lv_sub hl [1, 2, 0] rfl)
        · have hw := hw.2 c_12
          refine lv_aload_n hx hb dX12_goOn_149 rfl (lv_at hl 1 rfl) ?_
          refine mw_get (v := .ref (R 43)) hx hb hts hin12 hown hK hP 43 (by decide) (hts (.fieldLink RX12 193 "HiddenMovesModel" "chanceTop" "[J") (List.mem_cons_of_mem _ (List.mem_append_left _ (List.mem_append_left _ (List.mem_of_getElem? (i := 10) rfl))))) (fun _ h9 => h9) rfl dX12_goOn_150 ?_
          refine lv_bipush (v := hz_i 9) hx hb dX12_goOn_153 (by decide +kernel) ?_
          refine lv_iload_n hx hb dX12_goOn_155 rfl (lv_at hl 2 rfl) ?_
          refine hz_imul hx hb dX12_goOn_156 ?_
          refine lv_aload_n hx hb dX12_goOn_157 rfl (lv_at hl 1 rfl) ?_
          refine mw_get (v := .ref (R 40)) hx hb hts hin12 hown hK hP 40 (by decide) (hts (.fieldLink RX12 184 "HiddenMovesModel" "openMoves" "[I") (List.mem_cons_of_mem _ (List.mem_append_left _ (List.mem_append_left _ (List.mem_of_getElem? (i := 0) rfl))))) (fun _ h9 => h9) rfl dX12_goOn_158 ?_
          refine lv_iload_n hx hb dX12_goOn_161 rfl (lv_at hl 2 rfl) ?_
          obtain ⟨h9i, hw⟩ := hw
          refine mw_ild (k := 40) (n := 24) (i := y1) hx hb hK hP 31 30 rfl rfl h9i (by decide) dX12_goOn_162 ?_
          refine hz_iadd hx hb dX12_goOn_163 ?_
          refine lv_aload_n hx hb dX12_goOn_164 rfl (lv_at hl 1 rfl) ?_
          refine mw_get (v := .long (hz_l (z_9 47))) hx hb hts hin12 hown hK hP 47 (by decide) (hts (.fieldLink RX12 265 "HiddenMovesModel" "readTop" "J") (List.mem_cons_of_mem _ (List.mem_append_left _ (List.mem_append_left _ (List.mem_of_getElem? (i := 8) rfl))))) (fun _ h9 => h9) rfl dX12_goOn_165 ?_
          refine lv_lload_n hx hb dX12_goOn_168 rfl (lv_at hl 0 rfl) ?_
          obtain ⟨h9n, h9a, h9b, hw⟩ := hw
          refine hz_ldiv hx hb dX12_goOn_169 h9n h9a h9b ?_
          obtain ⟨h9i, hw⟩ := hw
          refine mw_lst (k := 43) (n := 216) (i := (9 * y1) + (A_6 40 (y1.toNat))) (v := (z_9 47).tdiv r_11) hx hb hK hP hD hS 34 33 rfl rfl (mw_a43 om R C z_9 A_6) h9i (by decide) dX12_goOn_170 (fun H locs hP hD hS => ?_)
          obtain ⟨A_13, hA_13⟩ : ∃ y : Nat → Nat → Int, y = hz_s A_6 43 ((9 * y1) + (A_6 40 (y1.toNat))) ((z_9 47).tdiv r_11) := ⟨_, rfl⟩
          rw [← hA_13] at hP hD
          have hw := hw A_13 hA_13
          refine lv_aload_n hx hb dX12_goOn_171 rfl (lv_at hl 1 rfl) ?_
          refine mw_get (v := .ref (R 44)) hx hb hts hin12 hown hK hP 44 (by decide) (hts (.fieldLink RX12 196 "HiddenMovesModel" "chanceBottom" "[J") (List.mem_cons_of_mem _ (List.mem_append_left _ (List.mem_append_left _ (List.mem_of_getElem? (i := 11) rfl))))) (fun _ h9 => h9) rfl dX12_goOn_172 ?_
          refine lv_bipush (v := hz_i 9) hx hb dX12_goOn_175 (by decide +kernel) ?_
          refine lv_iload_n hx hb dX12_goOn_177 rfl (lv_at hl 2 rfl) ?_
          refine hz_imul hx hb dX12_goOn_178 ?_
          refine lv_aload_n hx hb dX12_goOn_179 rfl (lv_at hl 1 rfl) ?_
          refine mw_get (v := .ref (R 40)) hx hb hts hin12 hown hK hP 40 (by decide) (hts (.fieldLink RX12 184 "HiddenMovesModel" "openMoves" "[I") (List.mem_cons_of_mem _ (List.mem_append_left _ (List.mem_append_left _ (List.mem_of_getElem? (i := 0) rfl))))) (fun _ h9 => h9) rfl dX12_goOn_180 ?_
          refine lv_iload_n hx hb dX12_goOn_183 rfl (lv_at hl 2 rfl) ?_
          obtain ⟨h9i, hw⟩ := hw
          refine mw_ild (k := 40) (n := 24) (i := y1) hx hb hK hP 31 30 rfl rfl h9i (by decide) dX12_goOn_184 ?_
          refine hz_iadd hx hb dX12_goOn_185 ?_
          refine lv_aload_n hx hb dX12_goOn_186 rfl (lv_at hl 1 rfl) ?_
          refine mw_get (v := .long (hz_l (z_9 48))) hx hb hts hin12 hown hK hP 48 (by decide) (hts (.fieldLink RX12 269 "HiddenMovesModel" "readBottom" "J") (List.mem_cons_of_mem _ (List.mem_append_left _ (List.mem_append_left _ (List.mem_of_getElem? (i := 9) rfl))))) (fun _ h9 => h9) rfl dX12_goOn_187 ?_
          refine lv_lload_n hx hb dX12_goOn_190 rfl (lv_at hl 0 rfl) ?_
          obtain ⟨h9n, h9a, h9b, hw⟩ := hw
          refine hz_ldiv hx hb dX12_goOn_191 h9n h9a h9b ?_
          obtain ⟨h9i, hw⟩ := hw
          refine mw_lst (k := 44) (n := 216) (i := (9 * y1) + (A_13 40 (y1.toNat))) (v := (z_9 48).tdiv r_11) hx hb hK hP hD hS 35 34 rfl rfl (mw_a44 om R C z_9 A_13) h9i (by decide) dX12_goOn_192 (fun H locs hP hD hS => ?_)
          obtain ⟨A_14, hA_14⟩ : ∃ y : Nat → Nat → Int, y = hz_s A_13 44 ((9 * y1) + (A_13 40 (y1.toNat))) ((z_9 48).tdiv r_11) := ⟨_, rfl⟩
          rw [← hA_14] at hP hD
          have hw := hw A_14 hA_14
          exact L193 z_9 A_14 r_11 hw H locs ls hP hD hS (lv_sub hl [1, 2, 0] rfl)
      · have hw := hw.2 c_10
        subst hQQ
        subst hAe
        exact W.vret hx hb hr (fun t ht hW => ⟨⟨(0, z_9, A_6), rfl, hw, by rw [ht]; exact hP, va_K.moved hW.alike hK, hD⟩, hS.F ht⟩) hS.2.2 dX12_goOn_125
    · have hw := hw.2 c_7
      refine lv_aload_n hx hb dX12_goOn_96 rfl (lv_at hl 0 rfl) ?_
      refine lv_aload_n hx hb dX12_goOn_97 rfl (lv_at hl 0 rfl) ?_
      refine mw_get (v := .ref (R 41)) hx hb hts hin12 hown hK hP 41 (by decide) (hts (.fieldLink RX12 187 "HiddenMovesModel" "openTop" "[J") (List.mem_cons_of_mem _ (List.mem_append_left _ (List.mem_append_left _ (List.mem_of_getElem? (i := 5) rfl))))) (fun _ h9 => h9) rfl dX12_goOn_98 ?_
      refine lv_iload_n hx hb dX12_goOn_101 rfl (lv_at hl 1 rfl) ?_
      obtain ⟨h9i, hw⟩ := hw
      refine mw_lld (k := 41) (n := 24) (i := y1) hx hb hK hP 32 31 rfl rfl h9i (by decide) dX12_goOn_102 ?_
      refine lv_aload_n hx hb dX12_goOn_103 rfl (lv_at hl 0 rfl) ?_
      refine mw_get (v := .ref (R 42)) hx hb hts hin12 hown hK hP 42 (by decide) (hts (.fieldLink RX12 190 "HiddenMovesModel" "openBottom" "[J") (List.mem_cons_of_mem _ (List.mem_append_left _ (List.mem_append_left _ (List.mem_of_getElem? (i := 6) rfl))))) (fun _ h9 => h9) rfl dX12_goOn_104 ?_
      refine lv_iload_n hx hb dX12_goOn_107 rfl (lv_at hl 1 rfl) ?_
      obtain ⟨h9i, hw⟩ := hw
      refine mw_lld (k := 42) (n := 24) (i := y1) hx hb hK hP 33 32 rfl rfl h9i (by decide) dX12_goOn_108 ?_
      have hFc := mw_free hD hS hA
      refine va_callv (va_runV (As := [.long (hz_l (A_6 41 (y1.toNat))), .long (hz_l (A_6 42 (y1.toNat)))]) (rest := []) ⟨hx, hb, hml, hown, hts⟩ (k_beginNode l D _ om R C z_5 A_6 (A_6 41 (y1.toNat)) (A_6 42 (y1.toNat)) _ hw) (cwV 2 hts gX12_goOn_X12_beginNode rfl rfl rfl (by decide +kernel) ⟨Nat.le_of_ble_eq_true rfl, Nat.le_of_ble_eq_true rfl⟩) ⟨hm_blind, va_recv hK hP (ci := 12) (q0 := 0) rfl rfl, hm_pre hP hK hD hE⟩ rfl rfl hl.1 rfl (lv_room (Nat.le_of_ble_eq_true rfl)) dX12_goOn_109 ⟨Nat.le_of_ble_eq_true rfl, Nat.le_of_ble_eq_true rfl⟩) hS (fun q _ h => hFc q h) hFc (fun u t H1 locs ht hvm hw hB hz1 hk1 hS => ?_)
      obtain ⟨r_15, z_16, A_17⟩ := u
      obtain ⟨hP, hK1, hD1⟩ := hB
      rw [ht] at hP
      have hD := hD1.weaken (fun k q _ h => hFc q.1 h)
      have hP : va_P D vwCl (mw_w om R C z_16 A_17) H1 := hP
      have hD : va_D Ad (mw_w om R C z_16 A_17) := hD
      generalize H1 = H at hP hS ⊢
      refine W.eq (g2 := F0 m 112 ls []) rfl ?_
      subst hQQ
      subst hAe
      exact W.vret hx hb hr (fun t ht hW => ⟨⟨(0, z_16, A_17), rfl, hw, by rw [ht]; exact hP, va_K.moved hW.alike hK, hD⟩, hS.F ht⟩) hS.2.2 dX12_goOn_112
  have L49 : ∀ (z : Nat → Int) (A : Nat → Nat → Int), wp_goOn_49 z A y1  Q → ∀ (H : Heap) (locs : List Loc) (ls : Array Slot), va_P D vwCl (mw_w om R C z A) H → va_D Ad (mw_w om R C z A) → va_S Ad s.heap H locs → lv_has ls 4 [(0, .ref om), (1, .int (hz_i y1))] → W p l e (headSpec wsX12_goOn ({ frames := 3, cells := 0, slots := 0, locals := 90 } : Room)).room s m (List.toArray [.ref om, .int (hz_i y1)]) below meth c H locs 0 0 QQ (F0 m 49 ls []) := by
    intro z A hw H locs ls hP hD hS hl
    refine lv_aload_n hx hb dX12_goOn_49 rfl (lv_at hl 0 rfl) ?_
    refine lv_aload_n hx hb dX12_goOn_50 rfl (lv_at hl 0 rfl) ?_
    refine mw_get (v := .ref (R 40)) hx hb hts hin12 hown hK hP 40 (by decide) (hts (.fieldLink RX12 184 "HiddenMovesModel" "openMoves" "[I") (List.mem_cons_of_mem _ (List.mem_append_left _ (List.mem_append_left _ (List.mem_of_getElem? (i := 0) rfl))))) (fun _ h9 => h9) rfl dX12_goOn_51 ?_
    refine lv_iload_n hx hb dX12_goOn_54 rfl (lv_at hl 1 rfl) ?_
    obtain ⟨h9i, hw⟩ := hw
    refine mw_ild (k := 40) (n := 24) (i := y1) hx hb hK hP 31 30 rfl rfl h9i (by decide) dX12_goOn_55 ?_
    obtain ⟨h9a, hw⟩ := hw
    refine hz_if_lt (tgt := 68) hx hb dX12_goOn_56 (by decide) h9a (fun c_18 => ?_) (fun c_18 => ?_)
    · have hw := hw.1 c_18
      refine lv_aload_n hx hb dX12_goOn_68 rfl (lv_at hl 0 rfl) ?_
      refine mw_get (v := .int (hz_i (z 46))) hx hb hts hin12 hown hK hP 46 (by decide) (hts (.fieldLink RX12 262 "HiddenMovesModel" "at" "I") (List.mem_cons_of_mem _ (List.mem_append_left _ (List.mem_append_left _ (List.mem_of_getElem? (i := 2) rfl))))) (fun _ h9 => h9) rfl dX12_goOn_69 ?_
      exact L72 z A (z 46) hw H locs ls hP hD hS (lv_sub hl [0, 1] rfl)
    · have hw := hw.2 c_18
      refine lv_aload_n hx hb dX12_goOn_59 rfl (lv_at hl 0 rfl) ?_
      refine mw_get (v := .int (hz_i (z 46))) hx hb hts hin12 hown hK hP 46 (by decide) (hts (.fieldLink RX12 262 "HiddenMovesModel" "at" "I") (List.mem_cons_of_mem _ (List.mem_append_left _ (List.mem_append_left _ (List.mem_of_getElem? (i := 2) rfl))))) (fun _ h9 => h9) rfl dX12_goOn_60 ?_
      refine lv_iconst (v := hz_i 1) hx hb dX12_goOn_63 (by decide +kernel) ?_
      refine hz_iadd hx hb dX12_goOn_64 ?_
      refine lv_goto (tgt := 72) hx hb dX12_goOn_65 (by decide) ?_
      exact L72 z A ((z 46) + 1) hw H locs ls hP hD hS (lv_sub hl [0, 1] rfl)
  have hP := hP0; have hD := hD0; have hS := hS0; have hl := hl0; have hw := hw0
  obtain ⟨H, hH⟩ : ∃ H : Heap, H = s.heap := ⟨_, rfl⟩
  obtain ⟨locs, hlocs⟩ : ∃ L : List Loc, L = [] := ⟨_, rfl⟩
  rw [← hH] at hP
  have hS : va_S Ad s.heap H locs := by rw [hH, hlocs]; exact hS
  refine mw_HL hH hlocs ?_
  refine lv_aload_n hx hb dX12_goOn_0 rfl (lv_at hl 0 rfl) ?_
  refine mw_get (v := .ref (R 40)) hx hb hts hin12 hown hK hP 40 (by decide) (hts (.fieldLink RX12 184 "HiddenMovesModel" "openMoves" "[I") (List.mem_cons_of_mem _ (List.mem_append_left _ (List.mem_append_left _ (List.mem_of_getElem? (i := 0) rfl))))) (fun _ h9 => h9) rfl dX12_goOn_1 ?_
  refine lv_iload_n hx hb dX12_goOn_4 rfl (lv_at hl 1 rfl) ?_
  obtain ⟨h9i, hw⟩ := hw
  refine mw_ild (k := 40) (n := 24) (i := y1) hx hb hK hP 31 30 rfl rfl h9i (by decide) dX12_goOn_5 ?_
  obtain ⟨h9a, hw⟩ := hw
  refine hz_if_lt (tgt := 49) hx hb dX12_goOn_6 (by decide) h9a (fun c_19 => ?_) (fun c_19 => ?_)
  · have hw := hw.1 c_19
    exact L49 z A hw H locs ls hP hD hS (lv_sub hl [0, 1] rfl)
  · have hw := hw.2 c_19
    refine lv_aload_n hx hb dX12_goOn_9 rfl (lv_at hl 0 rfl) ?_
    refine mw_get (v := .ref (R 7)) hx hb hts hin12 hown hK hP 7 (by decide) (hts (.fieldLink RX12 102 "HiddenMovesModel" "kinds" "[I") (List.mem_cons_of_mem _ (List.mem_append_left _ (List.mem_append_left _ (List.mem_of_getElem? (i := 1) rfl))))) (fun _ h9 => h9) rfl dX12_goOn_10 ?_
    refine lv_aload_n hx hb dX12_goOn_13 rfl (lv_at hl 0 rfl) ?_
    refine mw_get (v := .int (hz_i (z 46))) hx hb hts hin12 hown hK hP 46 (by decide) (hts (.fieldLink RX12 262 "HiddenMovesModel" "at" "I") (List.mem_cons_of_mem _ (List.mem_append_left _ (List.mem_append_left _ (List.mem_of_getElem? (i := 2) rfl))))) (fun _ h9 => h9) rfl dX12_goOn_14 ?_
    obtain ⟨h9i, hw⟩ := hw
    refine mw_ild (k := 7) (n := 4001) (i := z 46) hx hb hK hP 5 4 rfl rfl h9i (by decide) dX12_goOn_17 ?_
    refine lv_bipush (v := hz_i 44) hx hb dX12_goOn_18 (by decide +kernel) ?_
    obtain ⟨h9a, hw⟩ := hw
    refine hz_icmp_eq (tgt := 49) hx hb dX12_goOn_20 (by decide) h9a ⟨by decide, by decide⟩ (fun c_20 => ?_) (fun c_20 => ?_)
    · have hw := hw.1 c_20
      exact L49 z A hw H locs ls hP hD hS (lv_sub hl [0, 1] rfl)
    · have hw := hw.2 c_20
      refine lv_aload_n hx hb dX12_goOn_23 rfl (lv_at hl 0 rfl) ?_
      refine lv_iload_n hx hb dX12_goOn_24 rfl (lv_at hl 1 rfl) ?_
      have hFc := mw_free hD hS hA
      refine va_callv (va_runV (As := [.int (hz_i y1)]) (rest := []) ⟨hx, hb, hml, hown, hts⟩ (k_finish l D _ om R C z A y1 _ hw) (cwV 1 hts gX12_goOn_X12_finish rfl rfl rfl (by decide +kernel) ⟨Nat.le_of_ble_eq_true rfl, Nat.le_of_ble_eq_true rfl⟩) ⟨hm_blind, va_recv hK hP (ci := 12) (q0 := 0) rfl rfl, hm_pre hP hK hD hE⟩ rfl rfl hl.1 rfl (lv_room (Nat.le_of_ble_eq_true rfl)) dX12_goOn_25 ⟨Nat.le_of_ble_eq_true rfl, Nat.le_of_ble_eq_true rfl⟩) hS (fun q _ h => hFc q h) hFc (fun u t H1 locs ht hvm hw hB hz1 hk1 hS => ?_)
      obtain ⟨r_21, z_22, A_23⟩ := u
      obtain ⟨hP, hK1, hD1⟩ := hB
      rw [ht] at hP
      have hD := hD1.weaken (fun k q _ h => hFc q.1 h)
      have hP : va_P D vwCl (mw_w om R C z_22 A_23) H1 := hP
      have hD : va_D Ad (mw_w om R C z_22 A_23) := hD
      generalize H1 = H at hP hS ⊢
      refine W.eq (g2 := F0 m 28 ls []) rfl ?_
      refine lv_aload_n hx hb dX12_goOn_28 rfl (lv_at hl 0 rfl) ?_
      refine lv_dup hx hb dX12_goOn_29 rfl ?_
      refine mw_get (v := .int (hz_i (z_22 46))) hx hb hts hin12 hown hK hP 46 (by decide) (hts (.fieldLink RX12 262 "HiddenMovesModel" "at" "I") (List.mem_cons_of_mem _ (List.mem_append_left _ (List.mem_append_left _ (List.mem_of_getElem? (i := 2) rfl))))) (fun _ h9 => h9) rfl dX12_goOn_30 ?_
      refine lv_iconst (v := hz_i 1) hx hb dX12_goOn_33 (by decide +kernel) ?_
      refine hz_iadd hx hb dX12_goOn_34 ?_
      refine mw_put (ty := .int) (v := .int (hz_i ((z_22 46) + 1))) hx hb hts hin12 hown hK hP hD hS 46 (by decide) (hts (.fieldLink RX12 262 "HiddenMovesModel" "at" "I") (List.mem_cons_of_mem _ (List.mem_append_left _ (List.mem_append_left _ (List.mem_of_getElem? (i := 2) rfl))))) (fun _ h9 => h9) rfl (by decide +kernel) rfl rfl (mw_s46 R z_22 ((z_22 46) + 1)) dX12_goOn_35 (fun H locs hP hD hS => ?_)
      obtain ⟨z_24, hz_24⟩ : ∃ y : Nat → Int, y = lp_U z_22 46 ((z_22 46) + 1) := ⟨_, rfl⟩
      rw [← hz_24] at hP hD
      have hw := hw z_24 hz_24
      refine lv_aload_n hx hb dX12_goOn_38 rfl (lv_at hl 0 rfl) ?_
      refine lv_dup hx hb dX12_goOn_39 rfl ?_
      refine mw_get (v := .int (hz_i (z_24 45))) hx hb hts hin12 hown hK hP 45 (by decide) (hts (.fieldLink RX12 275 "HiddenMovesModel" "open" "I") (List.mem_cons_of_mem _ (List.mem_append_left _ (List.mem_append_left _ (List.mem_of_getElem? (i := 3) rfl))))) (fun _ h9 => h9) rfl dX12_goOn_40 ?_
      refine lv_iconst (v := hz_i 1) hx hb dX12_goOn_43 (by decide +kernel) ?_
      refine hz_isub hx hb dX12_goOn_44 ?_
      refine mw_put (ty := .int) (v := .int (hz_i ((z_24 45) - 1))) hx hb hts hin12 hown hK hP hD hS 45 (by decide) (hts (.fieldLink RX12 275 "HiddenMovesModel" "open" "I") (List.mem_cons_of_mem _ (List.mem_append_left _ (List.mem_append_left _ (List.mem_of_getElem? (i := 3) rfl))))) (fun _ h9 => h9) rfl (by decide +kernel) rfl rfl (mw_s45 R z_24 ((z_24 45) - 1)) dX12_goOn_45 (fun H locs hP hD hS => ?_)
      obtain ⟨z_25, hz_25⟩ : ∃ y : Nat → Int, y = lp_U z_24 45 ((z_24 45) - 1) := ⟨_, rfl⟩
      rw [← hz_25] at hP hD
      have hw := hw z_25 hz_25
      subst hQQ
      subst hAe
      exact W.vret hx hb hr (fun t ht hW => ⟨⟨(0, z_25, A_23), rfl, hw, by rw [ht]; exact hP, va_K.moved hW.alike hK, hD⟩, hS.F ht⟩) hS.2.2 dX12_goOn_48
