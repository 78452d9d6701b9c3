noncomputable def wp_work_93 (z : Nat → Int) (A : Nat → Nat → Int) (y1 : Int) (y2 : Int) (x3 : Int) (Q : (Nat → Nat → Int) → Prop) : Prop := ∀ P93 : (Nat → Nat → Int) → Int → Prop, (∀ (A : Nat → Nat → Int) (x3 : Int), hz_rI x3 ∧ ((x3 < 0 → Q A) ∧ (¬ (x3 < 0) → wp_rowFor z A x3 y1 y2 (fun r_2 A_3 => wp_exchange z A_3 r_2 x3 y1 y2 (fun A_5 => wp_gaining z A_5 y1 y2 (fun r_6 => P93 A_5 r_6))))) → P93 A x3) → P93 A x3
noncomputable def wp_work_36 (z : Nat → Int) (A : Nat → Nat → Int) (y1 : Int) (y2 : Int) (x3 : Int) (Q : (Nat → Nat → Int) → Prop) : Prop := ∀ P36 : (Nat → Nat → Int) → Int → Prop, (∀ (A : Nat → Nat → Int) (x3 : Int), hz_rI x3 ∧ hz_rI y2 ∧ ((y2 ≤ x3 → wp_cell z A y1 y2 (fun r_8 => wp_bigSet z A r_8 0 (fun A_10 => wp_bigSet z A_10 4225 1 (fun A_12 => wp_gaining z A_12 y1 y2 (fun r_13 => wp_work_93 z A_12 y1 y2 r_13  Q))))) ∧ (¬ (y2 ≤ x3) → wp_cell z A y1 x3 (fun r_14 => wp_bigSet z A r_14 (-1) (fun A_16 => (0 ≤ x3 ∧ x3 < 65) ∧ ∀ A_17 : Nat → Nat → Int, A_17 = hz_s A_16 55 x3 x3 → ∀ x3_18 : Int, x3_18 = x3 + 1 → P36 A_17 x3_18)))) → P36 A x3) → P36 A x3
noncomputable def wp_work_2 (z : Nat → Int) (A : Nat → Nat → Int) (y1 : Int) (y2 : Int) (x3 : Int) (Q : (Nat → Nat → Int) → Prop) : Prop := ∀ P2 : (Nat → Nat → Int) → Int → Prop, (∀ (A : Nat → Nat → Int) (x3 : Int), hz_rI x3 ∧ hz_rI y1 ∧ ((y1 ≤ x3 → wp_work_36 z A y1 y2 0  Q) ∧ (¬ (y1 ≤ x3) → wp_cell z A x3 y2 (fun r_20 => wp_bigSet z A r_20 1 (fun A_22 => (0 ≤ x3 ∧ x3 < 65) ∧ ∀ A_23 : Nat → Nat → Int, A_23 = hz_s A_22 54 x3 (100 + x3) → ∀ x3_24 : Int, x3_24 = x3 + 1 → P2 A_23 x3_24)))) → P2 A x3) → P2 A x3
noncomputable def wp_work (z : Nat → Int) (A : Nat → Nat → Int) (y1 : Int) (y2 : Int) (Q : (Nat → Nat → Int) → Prop) : Prop := wp_work_2 z A y1 y2 0  Q
set_option maxHeartbeats 4000000 in
set_option maxRecDepth 100000 in
theorem k_work (l : Launch) (D : va_G) (sz : Nat) (om : Nat) (R : Nat → Nat) (C : Nat → ClassId) (z : Nat → Int) (A : Nat → Nat → Int) (y1 : Int) (y2 : Int) (Q : (Nat → Nat → Int) → Prop) (hw : wp_work z A y1 y2 Q) : Met l yX12_work wsX12_work ({ frames := 7, cells := 0, slots := 0, locals := 178 } : Room) (va_Pc [.ref om, .int (hz_i y1), .int (hz_i y2)] (hm_P D (mw_w om R C z A) (mw_t C) sz)) (va_Qv (S := Int × (Nat → Int) × (Nat → Nat → Int)) (fun u => Q u.2.2) (fun u t => hm_B D (va_A (mw_w om R C z A) sz) (mw_w om R C z u.2.2) (mw_t C) t) (va_A (mw_w om R C z A) sz)) 0 0 (va_A (mw_w om R C z A) sz) := by
  refine Met.ofW (cc := cX12_work) (maxL := 4) (ret := none) (by decide) rfl ?_
  intro p e s m args below meth c s₁ B hml hv
  obtain ⟨rfl, hsz, hP, hK, hD0, hE⟩ := hv
  have hx := B.exec
  have hb := B.bytes
  have hr := B.returns
  have hts := atoms_spec (ws := wsX12_work) B.pre
  have hown : s.vm.findClass RX12 = some m.cls := findClass_of_methodNamed B.named
  have hlocks := B.notSynchronized
  have hin12 : ∀ w ∈ u_ws RX12 TX12 58, w ∈ wsX12_work := fun w h => List.mem_cons_of_mem _ (List.mem_append_right _ (h))
  subst hsz
  have hD := hD0.self (sz := s.heap.size)
  generalize hAe : va_A (mw_w om R C z A) s.heap.size = Ad at hD ⊢
  have hA : ∀ q : Nat, s.heap.size ≤ q → Ad q := fun q h => by rw [← hAe]; exact Or.inr h
  have hS : va_S Ad s.heap s.heap [] := va_S.rf
  have hl := lv_entry ([.ref om, .int (hz_i y1), .int (hz_i y2)]) (n := 4) (Nat.le_of_ble_eq_true rfl)
  rw [lg_entry_eq]
  generalize (lg_sl ([.ref om, .int (hz_i y1), .int (hz_i y2)]) ++ List.replicate (4 - (lg_sl ([.ref om, .int (hz_i y1), .int (hz_i y2)])).length) Slot.unset).toArray = ls at hl ⊢
  have hl : lv_has ls 4 [(0, .ref om), (1, .int (hz_i y1)), (2, .int (hz_i y2))] := hl
  refine mw_Q (fun QQ hQQ => ?_)
  have hP0 := hP; have hD0 := hD; have hS0 := hS; have hl0 := hl; have hw0 := hw
  clear hP hD hS hl hw
  have L93 : ∀ (A : Nat → Nat → Int) (x3 : Int), wp_work_93 z A y1 y2 x3  Q → ∀ (H : Heap) (locs : List Loc) (ls : Array Slot), va_P D vwCl (mw_w om R C z A) H → va_D Ad (mw_w om R C z A) → va_S Ad s.heap H locs → lv_has ls 4 [(0, .ref om), (1, .int (hz_i y1)), (2, .int (hz_i y2)), (3, .int (hz_i x3))] → W p l e (headSpec wsX12_work ({ frames := 7, cells := 0, slots := 0, locals := 178 } : Room)).room s m (List.toArray [.ref om, .int (hz_i y1), .int (hz_i y2)]) below meth c H locs 0 0 QQ (F0 m 93 ls []) := by
    intro A x3 hw
    obtain ⟨P93, hP93⟩ : ∃ P : (Nat → Nat → Int) → Int → Prop, ∀ (A : Nat → Nat → Int) (x3 : Int), P A x3 ↔ (∀ (H : Heap) (locs : List Loc) (ls : Array Slot), va_P D vwCl (mw_w om R C z A) H → va_D Ad (mw_w om R C z A) → va_S Ad s.heap H locs → lv_has ls 4 [(0, .ref om), (1, .int (hz_i y1)), (2, .int (hz_i y2)), (3, .int (hz_i x3))] → W p l e (headSpec wsX12_work ({ frames := 7, cells := 0, slots := 0, locals := 178 } : Room)).room s m (List.toArray [.ref om, .int (hz_i y1), .int (hz_i y2)]) below meth c H locs 0 0 QQ (F0 m 93 ls [])) := ⟨fun (A : Nat → Nat → Int) (x3 : Int) => ∀ (H : Heap) (locs : List Loc) (ls : Array Slot), va_P D vwCl (mw_w om R C z A) H → va_D Ad (mw_w om R C z A) → va_S Ad s.heap H locs → lv_has ls 4 [(0, .ref om), (1, .int (hz_i y1)), (2, .int (hz_i y2)), (3, .int (hz_i x3))] → W p l e (headSpec wsX12_work ({ frames := 7, cells := 0, slots := 0, locals := 178 } : Room)).room s m (List.toArray [.ref om, .int (hz_i y1), .int (hz_i y2)]) below meth c H locs 0 0 QQ (F0 m 93 ls []), fun _ _ => Iff.rfl⟩
    refine (hP93 A x3).mp (hw P93 ?_)
    intro A x3 hw
    refine (hP93 A x3).mpr ?_
    intro H locs ls hP hD hS hl
    refine lv_iload_n hx hb dX12_work_93 rfl (lv_at hl 3 rfl) ?_
    obtain ⟨h9a, hw⟩ := hw
    refine hz_if_lt (tgt := 121) hx hb dX12_work_94 (by decide) h9a (fun c_1 => ?_) (fun c_1 => ?_)
    · have hw := hw.1 c_1
      subst hQQ
      subst hAe
      exact W.vret hx hb hr (fun t ht hW => ⟨⟨(0, z, A), rfl, hw, by rw [ht]; exact hP, va_K.moved hW.alike hK, hD⟩, hS.F ht⟩) hS.2.2 dX12_work_121
    · have hw := hw.2 c_1
      refine lv_aload_n hx hb dX12_work_97 rfl (lv_at hl 0 rfl) ?_
      refine lv_aload_n hx hb dX12_work_98 rfl (lv_at hl 0 rfl) ?_
      refine lv_iload_n hx hb dX12_work_99 rfl (lv_at hl 3 rfl) ?_
      refine lv_iload_n hx hb dX12_work_100 rfl (lv_at hl 1 rfl) ?_
      refine lv_iload_n hx hb dX12_work_101 rfl (lv_at hl 2 rfl) ?_
      have hFc := mw_free hD hS hA
      refine va_calli (va_runV (As := [.int (hz_i x3), .int (hz_i y1), .int (hz_i y2)]) (rest := [.ref om]) ⟨hx, hb, hml, hown, hts⟩ (k_rowFor l D _ om R C z A x3 y1 y2 _ hw) (cwV 3 hts gX12_work_X12_rowFor rfl rfl rfl (by decide +kernel) ⟨Nat.le_of_ble_eq_true rfl, Nat.le_of_ble_eq_true rfl⟩) ⟨hm_blind, va_recv hK hP (ci := 12) (q0 := 0) rfl rfl, hm_pre hP hK hD hE⟩ rfl rfl hl.1 rfl (lv_room (Nat.le_of_ble_eq_true rfl)) dX12_work_102 ⟨Nat.le_of_ble_eq_true rfl, Nat.le_of_ble_eq_true rfl⟩) hS (fun q _ h => hFc q h) hFc (fun rv u t H1 locs ht hvm hw hB hz1 hk1 hS => ?_)
      obtain ⟨r_2, _, A_3⟩ := u
      obtain ⟨hP, hK1, hD1⟩ := hB
      rw [ht] at hP
      obtain ⟨hrv, hw⟩ := hw
      subst hrv
      have hD := hD1.weaken (fun k q _ h => hFc q.1 h)
      have hP : va_P D vwCl (mw_w om R C z A_3) H1 := hP
      have hD : va_D Ad (mw_w om R C z A_3) := hD
      generalize H1 = H at hP hS ⊢
      refine W.eq (g2 := F0 m 105 ls [.int (hz_i r_2), .ref om]) rfl ?_
      refine lv_iload_n hx hb dX12_work_105 rfl (lv_at hl 3 rfl) ?_
      refine lv_iload_n hx hb dX12_work_106 rfl (lv_at hl 1 rfl) ?_
      refine lv_iload_n hx hb dX12_work_107 rfl (lv_at hl 2 rfl) ?_
      have hFc := mw_free hD hS hA
      refine va_callv (va_runV (As := [.int (hz_i r_2), .int (hz_i x3), .int (hz_i y1), .int (hz_i y2)]) (rest := []) ⟨hx, hb, hml, hown, hts⟩ (k_exchange l D _ om R C z A_3 r_2 x3 y1 y2 _ hw) (cwV 4 hts gX12_work_X12_exchange rfl rfl rfl (by decide +kernel) ⟨Nat.le_of_ble_eq_true rfl, Nat.le_of_ble_eq_true rfl⟩) ⟨hm_blind, va_recv hK hP (ci := 12) (q0 := 0) rfl rfl, hm_pre hP hK hD hE⟩ rfl rfl hl.1 rfl (lv_room (Nat.le_of_ble_eq_true rfl)) dX12_work_108 ⟨Nat.le_of_ble_eq_true rfl, Nat.le_of_ble_eq_true rfl⟩) hS (fun q _ h => hFc q h) hFc (fun u t H1 locs ht hvm hw hB hz1 hk1 hS => ?_)
      obtain ⟨r_4, _, A_5⟩ := u
      obtain ⟨hP, hK1, hD1⟩ := hB
      rw [ht] at hP
      have hD := hD1.weaken (fun k q _ h => hFc q.1 h)
      have hP : va_P D vwCl (mw_w om R C z A_5) H1 := hP
      have hD : va_D Ad (mw_w om R C z A_5) := hD
      generalize H1 = H at hP hS ⊢
      refine W.eq (g2 := F0 m 111 ls []) rfl ?_
      refine lv_aload_n hx hb dX12_work_111 rfl (lv_at hl 0 rfl) ?_
      refine lv_iload_n hx hb dX12_work_112 rfl (lv_at hl 1 rfl) ?_
      refine lv_iload_n hx hb dX12_work_113 rfl (lv_at hl 2 rfl) ?_
      have hFc := mw_free hD hS hA
      refine va_calli (va_runV (As := [.int (hz_i y1), .int (hz_i y2)]) (rest := []) ⟨hx, hb, hml, hown, hts⟩ (k_gaining l D _ om R C z A_5 y1 y2 _ hw) (cwV 2 hts gX12_work_X12_gaining rfl rfl rfl (by decide +kernel) ⟨Nat.le_of_ble_eq_true rfl, Nat.le_of_ble_eq_true rfl⟩) ⟨hm_blind, va_recv hK hP (ci := 12) (q0 := 0) rfl rfl, hm_pre hP hK hD hE⟩ rfl rfl hl.1 rfl (lv_room (Nat.le_of_ble_eq_true rfl)) dX12_work_114 ⟨Nat.le_of_ble_eq_true rfl, Nat.le_of_ble_eq_true rfl⟩) hS (fun q _ h => hFc q h) hFc (fun rv u t H1 locs ht hvm hw hB hz1 hk1 hS => ?_)
      obtain ⟨r_6, _, _⟩ := u
      obtain ⟨hP, hK1, hD1⟩ := hB
      rw [ht] at hP
      obtain ⟨hrv, hw⟩ := hw
      subst hrv
      have hD := hD1.weaken (fun k q _ h => hFc q.1 h)
      have hP : va_P D vwCl (mw_w om R C z A_5) H1 := hP
      have hD : va_D Ad (mw_w om R C z A_5) := hD
      generalize H1 = H at hP hS ⊢
      refine W.eq (g2 := F0 m 117 ls [.int (hz_i r_6)]) rfl ?_
      refine lv_istore_n (lv' := [(3, .int (hz_i r_6)), (0, .ref om), (1, .int (hz_i y1)), (2, .int (hz_i y2))]) hx hb dX12_work_117 rfl hl (by decide) rfl (fun ls hl => ?_)
      refine lv_goto (tgt := 93) hx hb dX12_work_118 (by decide) ?_
      exact (hP93 A_5 r_6).mp hw H locs ls hP hD hS (lv_sub hl [1, 2, 3, 0] rfl)
  have L36 : ∀ (A : Nat → Nat → Int) (x3 : Int), wp_work_36 z A y1 y2 x3  Q → ∀ (H : Heap) (locs : List Loc) (ls : Array Slot), va_P D vwCl (mw_w om R C z A) H → va_D Ad (mw_w om R C z A) → va_S Ad s.heap H locs → lv_has ls 4 [(0, .ref om), (1, .int (hz_i y1)), (2, .int (hz_i y2)), (3, .int (hz_i x3))] → W p l e (headSpec wsX12_work ({ frames := 7, cells := 0, slots := 0, locals := 178 } : Room)).room s m (List.toArray [.ref om, .int (hz_i y1), .int (hz_i y2)]) below meth c H locs 0 0 QQ (F0 m 36 ls []) := by
    intro A x3 hw
    obtain ⟨P36, hP36⟩ : ∃ P : (Nat → Nat → Int) → Int → Prop, ∀ (A : Nat → Nat → Int) (x3 : Int), P A x3 ↔ (∀ (H : Heap) (locs : List Loc) (ls : Array Slot), va_P D vwCl (mw_w om R C z A) H → va_D Ad (mw_w om R C z A) → va_S Ad s.heap H locs → lv_has ls 4 [(0, .ref om), (1, .int (hz_i y1)), (2, .int (hz_i y2)), (3, .int (hz_i x3))] → W p l e (headSpec wsX12_work ({ frames := 7, cells := 0, slots := 0, locals := 178 } : Room)).room s m (List.toArray [.ref om, .int (hz_i y1), .int (hz_i y2)]) below meth c H locs 0 0 QQ (F0 m 36 ls [])) := ⟨fun (A : Nat → Nat → Int) (x3 : Int) => ∀ (H : Heap) (locs : List Loc) (ls : Array Slot), va_P D vwCl (mw_w om R C z A) H → va_D Ad (mw_w om R C z A) → va_S Ad s.heap H locs → lv_has ls 4 [(0, .ref om), (1, .int (hz_i y1)), (2, .int (hz_i y2)), (3, .int (hz_i x3))] → W p l e (headSpec wsX12_work ({ frames := 7, cells := 0, slots := 0, locals := 178 } : Room)).room s m (List.toArray [.ref om, .int (hz_i y1), .int (hz_i y2)]) below meth c H locs 0 0 QQ (F0 m 36 ls []), fun _ _ => Iff.rfl⟩
    refine (hP36 A x3).mp (hw P36 ?_)
    intro A x3 hw
    refine (hP36 A x3).mpr ?_
    intro H locs ls hP hD hS hl
    refine lv_iload_n hx hb dX12_work_36 rfl (lv_at hl 3 rfl) ?_
    refine lv_iload_n hx hb dX12_work_37 rfl (lv_at hl 2 rfl) ?_
    obtain ⟨h9a, hw⟩ := hw
    obtain ⟨h9b, hw⟩ := hw
    refine hz_icmp_ge (tgt := 67) hx hb dX12_work_38 (by decide) h9a h9b (fun c_7 => ?_) (fun c_7 => ?_)
    · have hw := hw.1 c_7
      refine lv_aload_n hx hb dX12_work_67 rfl (lv_at hl 0 rfl) ?_
      refine lv_aload_n hx hb dX12_work_68 rfl (lv_at hl 0 rfl) ?_
      refine lv_iload_n hx hb dX12_work_69 rfl (lv_at hl 1 rfl) ?_
      refine lv_iload_n hx hb dX12_work_70 rfl (lv_at hl 2 rfl) ?_
      have hFc := mw_free hD hS hA
      refine va_calli (va_runV (As := [.int (hz_i y1), .int (hz_i y2)]) (rest := [.ref om]) ⟨hx, hb, hml, hown, hts⟩ (k_cell l D _ om R C z A y1 y2 _ hw) (cwV 2 hts gX12_work_X12_cell rfl rfl rfl (by decide +kernel) ⟨Nat.le_of_ble_eq_true rfl, Nat.le_of_ble_eq_true rfl⟩) ⟨hm_blind, va_recv hK hP (ci := 12) (q0 := 0) rfl rfl, hm_pre hP hK hD hE⟩ rfl rfl hl.1 rfl (lv_room (Nat.le_of_ble_eq_true rfl)) dX12_work_71 ⟨Nat.le_of_ble_eq_true rfl, Nat.le_of_ble_eq_true rfl⟩) hS (fun q _ h => hFc q h) hFc (fun rv u t H1 locs ht hvm hw hB hz1 hk1 hS => ?_)
      obtain ⟨r_8, _, _⟩ := u
      obtain ⟨hP, hK1, hD1⟩ := hB
      rw [ht] at hP
      obtain ⟨hrv, hw⟩ := hw
      subst hrv
      have hD := hD1.weaken (fun k q _ h => hFc q.1 h)
      have hP : va_P D vwCl (mw_w om R C z A) H1 := hP
      have hD : va_D Ad (mw_w om R C z A) := hD
      generalize H1 = H at hP hS ⊢
      refine W.eq (g2 := F0 m 74 ls [.int (hz_i r_8), .ref om]) rfl ?_
      refine lv_lconst (v := hz_l 0) hx hb dX12_work_74 (by decide +kernel) ?_
      have hFc := mw_free hD hS hA
      refine va_callv (va_runV (As := [.int (hz_i r_8), .long (hz_l 0)]) (rest := []) ⟨hx, hb, hml, hown, hts⟩ (k_bigSet l D _ om R C z A r_8 0 _ hw) (cwV 2 hts gX12_work_X12_bigSet rfl rfl rfl (by decide +kernel) ⟨Nat.le_of_ble_eq_true rfl, Nat.le_of_ble_eq_true rfl⟩) ⟨hm_blind, va_recv hK hP (ci := 12) (q0 := 0) rfl rfl, hm_pre hP hK hD hE⟩ rfl rfl hl.1 rfl (lv_room (Nat.le_of_ble_eq_true rfl)) dX12_work_75 ⟨Nat.le_of_ble_eq_true rfl, Nat.le_of_ble_eq_true rfl⟩) hS (fun q _ h => hFc q h) hFc (fun u t H1 locs ht hvm hw hB hz1 hk1 hS => ?_)
      obtain ⟨r_9, _, A_10⟩ := u
      obtain ⟨hP, hK1, hD1⟩ := hB
      rw [ht] at hP
      have hD := hD1.weaken (fun k q _ h => hFc q.1 h)
      have hP : va_P D vwCl (mw_w om R C z A_10) H1 := hP
      have hD : va_D Ad (mw_w om R C z A_10) := hD
      generalize H1 = H at hP hS ⊢
      refine W.eq (g2 := F0 m 78 ls []) rfl ?_
      refine lv_aload_n hx hb dX12_work_78 rfl (lv_at hl 0 rfl) ?_
      refine lv_sipush (v := hz_i 4225) hx hb dX12_work_79 (by decide +kernel) ?_
      refine lv_lconst (v := hz_l 1) hx hb dX12_work_82 (by decide +kernel) ?_
      have hFc := mw_free hD hS hA
      refine va_callv (va_runV (As := [.int (hz_i 4225), .long (hz_l 1)]) (rest := []) ⟨hx, hb, hml, hown, hts⟩ (k_bigSet l D _ om R C z A_10 4225 1 _ hw) (cwV 2 hts gX12_work_X12_bigSet rfl rfl rfl (by decide +kernel) ⟨Nat.le_of_ble_eq_true rfl, Nat.le_of_ble_eq_true rfl⟩) ⟨hm_blind, va_recv hK hP (ci := 12) (q0 := 0) rfl rfl, hm_pre hP hK hD hE⟩ rfl rfl hl.1 rfl (lv_room (Nat.le_of_ble_eq_true rfl)) dX12_work_83 ⟨Nat.le_of_ble_eq_true rfl, Nat.le_of_ble_eq_true rfl⟩) hS (fun q _ h => hFc q h) hFc (fun u t H1 locs ht hvm hw hB hz1 hk1 hS => ?_)
      obtain ⟨r_11, _, A_12⟩ := u
      obtain ⟨hP, hK1, hD1⟩ := hB
      rw [ht] at hP
      have hD := hD1.weaken (fun k q _ h => hFc q.1 h)
      have hP : va_P D vwCl (mw_w om R C z A_12) H1 := hP
      have hD : va_D Ad (mw_w om R C z A_12) := hD
      generalize H1 = H at hP hS ⊢
      refine W.eq (g2 := F0 m 86 ls []) rfl ?_
      refine lv_aload_n hx hb dX12_work_86 rfl (lv_at hl 0 rfl) ?_
      refine lv_iload_n hx hb dX12_work_87 rfl (lv_at hl 1 rfl) ?_
      refine lv_iload_n hx hb dX12_work_88 rfl (lv_at hl 2 rfl) ?_
      have hFc := mw_free hD hS hA
      refine va_calli (va_runV (As := [.int (hz_i y1), .int (hz_i y2)]) (rest := []) ⟨hx, hb, hml, hown, hts⟩ (k_gaining l D _ om R C z A_12 y1 y2 _ hw) (cwV 2 hts gX12_work_X12_gaining rfl rfl rfl (by decide +kernel) ⟨Nat.le_of_ble_eq_true rfl, Nat.le_of_ble_eq_true rfl⟩) ⟨hm_blind, va_recv hK hP (ci := 12) (q0 := 0) rfl rfl, hm_pre hP hK hD hE⟩ rfl rfl hl.1 rfl (lv_room (Nat.le_of_ble_eq_true rfl)) dX12_work_89 ⟨Nat.le_of_ble_eq_true rfl, Nat.le_of_ble_eq_true rfl⟩) hS (fun q _ h => hFc q h) hFc (fun rv u t H1 locs ht hvm hw hB hz1 hk1 hS => ?_)
      obtain ⟨r_13, _, _⟩ := u
      obtain ⟨hP, hK1, hD1⟩ := hB
      rw [ht] at hP
      obtain ⟨hrv, hw⟩ := hw
      subst hrv
      have hD := hD1.weaken (fun k q _ h => hFc q.1 h)
      have hP : va_P D vwCl (mw_w om R C z A_12) H1 := hP
      have hD : va_D Ad (mw_w om R C z A_12) := hD
      generalize H1 = H at hP hS ⊢
      refine W.eq (g2 := F0 m 92 ls [.int (hz_i r_13)]) rfl ?_
      refine lv_istore_n (lv' := [(3, .int (hz_i r_13)), (0, .ref om), (1, .int (hz_i y1)), (2, .int (hz_i y2))]) hx hb dX12_work_92 rfl hl (by decide) rfl (fun ls hl => ?_)
      exact L93 A_12 r_13 hw H locs ls hP hD hS (lv_sub hl [1, 2, 3, 0] rfl)
    · have hw := hw.2 c_7
      refine lv_aload_n hx hb dX12_work_41 rfl (lv_at hl 0 rfl) ?_
      refine lv_aload_n hx hb dX12_work_42 rfl (lv_at hl 0 rfl) ?_
      refine lv_iload_n hx hb dX12_work_43 rfl (lv_at hl 1 rfl) ?_
      refine lv_iload_n hx hb dX12_work_44 rfl (lv_at hl 3 rfl) ?_
      have hFc := mw_free hD hS hA
      refine va_calli (va_runV (As := [.int (hz_i y1), .int (hz_i x3)]) (rest := [.ref om]) ⟨hx, hb, hml, hown, hts⟩ (k_cell l D _ om R C z A y1 x3 _ hw) (cwV 2 hts gX12_work_X12_cell rfl rfl rfl (by decide +kernel) ⟨Nat.le_of_ble_eq_true rfl, Nat.le_of_ble_eq_true rfl⟩) ⟨hm_blind, va_recv hK hP (ci := 12) (q0 := 0) rfl rfl, hm_pre hP hK hD hE⟩ rfl rfl hl.1 rfl (lv_room (Nat.le_of_ble_eq_true rfl)) dX12_work_45 ⟨Nat.le_of_ble_eq_true rfl, Nat.le_of_ble_eq_true rfl⟩) hS (fun q _ h => hFc q h) hFc (fun rv u t H1 locs ht hvm hw hB hz1 hk1 hS => ?_)
      obtain ⟨r_14, _, _⟩ := u
      obtain ⟨hP, hK1, hD1⟩ := hB
      rw [ht] at hP
      obtain ⟨hrv, hw⟩ := hw
      subst hrv
      have hD := hD1.weaken (fun k q _ h => hFc q.1 h)
      have hP : va_P D vwCl (mw_w om R C z A) H1 := hP
      have hD : va_D Ad (mw_w om R C z A) := hD
      generalize H1 = H at hP hS ⊢
      refine W.eq (g2 := F0 m 48 ls [.int (hz_i r_14), .ref om]) rfl ?_
      refine lv_ldc2 hx hb hown (hts (.constantLong RX12 384 (-1)) (List.mem_cons_of_mem _ (List.mem_append_left _ (List.mem_append_left _ (List.mem_of_getElem? (i := 1) rfl))))) dX12_work_48 ?_
      refine hz_asl (b := (-1)) (by decide +kernel) ?_
      have hFc := mw_free hD hS hA
      refine va_callv (va_runV (As := [.int (hz_i r_14), .long (hz_l (-1))]) (rest := []) ⟨hx, hb, hml, hown, hts⟩ (k_bigSet l D _ om R C z A r_14 (-1) _ hw) (cwV 2 hts gX12_work_X12_bigSet rfl rfl rfl (by decide +kernel) ⟨Nat.le_of_ble_eq_true rfl, Nat.le_of_ble_eq_true rfl⟩) ⟨hm_blind, va_recv hK hP (ci := 12) (q0 := 0) rfl rfl, hm_pre hP hK hD hE⟩ rfl rfl hl.1 rfl (lv_room (Nat.le_of_ble_eq_true rfl)) dX12_work_51 ⟨Nat.le_of_ble_eq_true rfl, Nat.le_of_ble_eq_true rfl⟩) hS (fun q _ h => hFc q h) hFc (fun u t H1 locs ht hvm hw hB hz1 hk1 hS => ?_)
      obtain ⟨r_15, _, A_16⟩ := u
      obtain ⟨hP, hK1, hD1⟩ := hB
      rw [ht] at hP
      have hD := hD1.weaken (fun k q _ h => hFc q.1 h)
      have hP : va_P D vwCl (mw_w om R C z A_16) H1 := hP
      have hD : va_D Ad (mw_w om R C z A_16) := hD
      generalize H1 = H at hP hS ⊢
      refine W.eq (g2 := F0 m 54 ls []) rfl ?_
      refine lv_aload_n hx hb dX12_work_54 rfl (lv_at hl 0 rfl) ?_
      refine mw_get (v := .ref (R 55)) hx hb hts hin12 hown hK hP 55 (by decide) (hts (.fieldLink RX12 217 "HiddenMovesModel" "columnOf" "[I") (List.mem_cons_of_mem _ (List.mem_append_left _ (List.mem_append_left _ (List.mem_of_getElem? (i := 2) rfl))))) (fun _ h9 => h9) rfl dX12_work_55 ?_
      refine lv_iload_n hx hb dX12_work_58 rfl (lv_at hl 3 rfl) ?_
      refine lv_iload_n hx hb dX12_work_59 rfl (lv_at hl 3 rfl) ?_
      obtain ⟨h9i, hw⟩ := hw
      refine mw_ist (k := 55) (n := 65) (i := x3) (v := x3) hx hb hK hP hD hS 42 41 rfl rfl (mw_a55 om R C z A_16) h9i (by decide) dX12_work_60 (fun H locs hP hD hS => ?_)
      obtain ⟨A_17, hA_17⟩ : ∃ y : Nat → Nat → Int, y = hz_s A_16 55 x3 x3 := ⟨_, rfl⟩
      rw [← hA_17] at hP hD
      have hw := hw A_17 hA_17
      obtain ⟨x3_18, hx3_18⟩ : ∃ y : Int, y = x3 + 1 := ⟨_, rfl⟩
      have hw := hw x3_18 hx3_18
      refine lv_iinc (v := hz_i x3_18) (lv' := [(3, .int (hz_i x3_18)), (0, .ref om), (1, .int (hz_i y1)), (2, .int (hz_i y2))]) hx hb dX12_work_61 hl (k := 3) rfl (by rw [hx3_18]; exact hz_i_add _ _) (by decide) rfl (fun ls hl => ?_)
      refine lv_goto (tgt := 36) hx hb dX12_work_64 (by decide) ?_
      exact (hP36 A_17 x3_18).mp hw H locs ls hP hD hS (lv_sub hl [1, 2, 3, 0] rfl)
  have L2 : ∀ (A : Nat → Nat → Int) (x3 : Int), wp_work_2 z A y1 y2 x3  Q → ∀ (H : Heap) (locs : List Loc) (ls : Array Slot), va_P D vwCl (mw_w om R C z A) H → va_D Ad (mw_w om R C z A) → va_S Ad s.heap H locs → lv_has ls 4 [(0, .ref om), (1, .int (hz_i y1)), (2, .int (hz_i y2)), (3, .int (hz_i x3))] → W p l e (headSpec wsX12_work ({ frames := 7, cells := 0, slots := 0, locals := 178 } : Room)).room s m (List.toArray [.ref om, .int (hz_i y1), .int (hz_i y2)]) below meth c H locs 0 0 QQ (F0 m 2 ls []) := by
    intro A x3 hw
    obtain ⟨P2, hP2⟩ : ∃ P : (Nat → Nat → Int) → Int → Prop, ∀ (A : Nat → Nat → Int) (x3 : Int), P A x3 ↔ (∀ (H : Heap) (locs : List Loc) (ls : Array Slot), va_P D vwCl (mw_w om R C z A) H → va_D Ad (mw_w om R C z A) → va_S Ad s.heap H locs → lv_has ls 4 [(0, .ref om), (1, .int (hz_i y1)), (2, .int (hz_i y2)), (3, .int (hz_i x3))] → W p l e (headSpec wsX12_work ({ frames := 7, cells := 0, slots := 0, locals := 178 } : Room)).room s m (List.toArray [.ref om, .int (hz_i y1), .int (hz_i y2)]) below meth c H locs 0 0 QQ (F0 m 2 ls [])) := ⟨fun (A : Nat → Nat → Int) (x3 : Int) => ∀ (H : Heap) (locs : List Loc) (ls : Array Slot), va_P D vwCl (mw_w om R C z A) H → va_D Ad (mw_w om R C z A) → va_S Ad s.heap H locs → lv_has ls 4 [(0, .ref om), (1, .int (hz_i y1)), (2, .int (hz_i y2)), (3, .int (hz_i x3))] → W p l e (headSpec wsX12_work ({ frames := 7, cells := 0, slots := 0, locals := 178 } : Room)).room s m (List.toArray [.ref om, .int (hz_i y1), .int (hz_i y2)]) below meth c H locs 0 0 QQ (F0 m 2 ls []), fun _ _ => Iff.rfl⟩
    refine (hP2 A x3).mp (hw P2 ?_)
    intro A x3 hw
    refine (hP2 A x3).mpr ?_
    intro H locs ls hP hD hS hl
    refine lv_iload_n hx hb dX12_work_2 rfl (lv_at hl 3 rfl) ?_
    refine lv_iload_n hx hb dX12_work_3 rfl (lv_at hl 1 rfl) ?_
    obtain ⟨h9a, hw⟩ := hw
    obtain ⟨h9b, hw⟩ := hw
    refine hz_icmp_ge (tgt := 34) hx hb dX12_work_4 (by decide) h9a h9b (fun c_19 => ?_) (fun c_19 => ?_)
    · have hw := hw.1 c_19
      refine lv_iconst (v := hz_i 0) hx hb dX12_work_34 (by decide +kernel) ?_
      refine lv_istore_n (lv' := [(3, .int (hz_i 0)), (0, .ref om), (1, .int (hz_i y1)), (2, .int (hz_i y2))]) hx hb dX12_work_35 rfl hl (by decide) rfl (fun ls hl => ?_)
      exact L36 A 0 hw H locs ls hP hD hS (lv_sub hl [1, 2, 3, 0] rfl)
    · have hw := hw.2 c_19
      refine lv_aload_n hx hb dX12_work_7 rfl (lv_at hl 0 rfl) ?_
      refine lv_aload_n hx hb dX12_work_8 rfl (lv_at hl 0 rfl) ?_
      refine lv_iload_n hx hb dX12_work_9 rfl (lv_at hl 3 rfl) ?_
      refine lv_iload_n hx hb dX12_work_10 rfl (lv_at hl 2 rfl) ?_
      have hFc := mw_free hD hS hA
      refine va_calli (va_runV (As := [.int (hz_i x3), .int (hz_i y2)]) (rest := [.ref om]) ⟨hx, hb, hml, hown, hts⟩ (k_cell l D _ om R C z A x3 y2 _ hw) (cwV 2 hts gX12_work_X12_cell rfl rfl rfl (by decide +kernel) ⟨Nat.le_of_ble_eq_true rfl, Nat.le_of_ble_eq_true rfl⟩) ⟨hm_blind, va_recv hK hP (ci := 12) (q0 := 0) rfl rfl, hm_pre hP hK hD hE⟩ rfl rfl hl.1 rfl (lv_room (Nat.le_of_ble_eq_true rfl)) dX12_work_11 ⟨Nat.le_of_ble_eq_true rfl, Nat.le_of_ble_eq_true rfl⟩) hS (fun q _ h => hFc q h) hFc (fun rv u t H1 locs ht hvm hw hB hz1 hk1 hS => ?_)
      obtain ⟨r_20, _, _⟩ := u
      obtain ⟨hP, hK1, hD1⟩ := hB
      rw [ht] at hP
      obtain ⟨hrv, hw⟩ := hw
      subst hrv
      have hD := hD1.weaken (fun k q _ h => hFc q.1 h)
      have hP : va_P D vwCl (mw_w om R C z A) H1 := hP
      have hD : va_D Ad (mw_w om R C z A) := hD
      generalize H1 = H at hP hS ⊢
      refine W.eq (g2 := F0 m 14 ls [.int (hz_i r_20), .ref om]) rfl ?_
      refine lv_lconst (v := hz_l 1) hx hb dX12_work_14 (by decide +kernel) ?_
      have hFc := mw_free hD hS hA
      refine va_callv (va_runV (As := [.int (hz_i r_20), .long (hz_l 1)]) (rest := []) ⟨hx, hb, hml, hown, hts⟩ (k_bigSet l D _ om R C z A r_20 1 _ hw) (cwV 2 hts gX12_work_X12_bigSet rfl rfl rfl (by decide +kernel) ⟨Nat.le_of_ble_eq_true rfl, Nat.le_of_ble_eq_true rfl⟩) ⟨hm_blind, va_recv hK hP (ci := 12) (q0 := 0) rfl rfl, hm_pre hP hK hD hE⟩ rfl rfl hl.1 rfl (lv_room (Nat.le_of_ble_eq_true rfl)) dX12_work_15 ⟨Nat.le_of_ble_eq_true rfl, Nat.le_of_ble_eq_true rfl⟩) hS (fun q _ h => hFc q h) hFc (fun u t H1 locs ht hvm hw hB hz1 hk1 hS => ?_)
      obtain ⟨r_21, _, A_22⟩ := u
      obtain ⟨hP, hK1, hD1⟩ := hB
      rw [ht] at hP
      have hD := hD1.weaken (fun k q _ h => hFc q.1 h)
      have hP : va_P D vwCl (mw_w om R C z A_22) H1 := hP
      have hD : va_D Ad (mw_w om R C z A_22) := hD
      generalize H1 = H at hP hS ⊢
      refine W.eq (g2 := F0 m 18 ls []) rfl ?_
      refine lv_aload_n hx hb dX12_work_18 rfl (lv_at hl 0 rfl) ?_
      refine mw_get (v := .ref (R 54)) hx hb hts hin12 hown hK hP 54 (by decide) (hts (.fieldLink RX12 214 "HiddenMovesModel" "rowOf" "[I") (List.mem_cons_of_mem _ (List.mem_append_left _ (List.mem_append_left _ (List.mem_of_getElem? (i := 0) rfl))))) (fun _ h9 => h9) rfl dX12_work_19 ?_
      refine lv_iload_n hx hb dX12_work_22 rfl (lv_at hl 3 rfl) ?_
      refine lv_bipush (v := hz_i 100) hx hb dX12_work_23 (by decide +kernel) ?_
      refine lv_iload_n hx hb dX12_work_25 rfl (lv_at hl 3 rfl) ?_
      refine hz_iadd hx hb dX12_work_26 ?_
      obtain ⟨h9i, hw⟩ := hw
      refine mw_ist (k := 54) (n := 65) (i := x3) (v := 100 + x3) hx hb hK hP hD hS 41 40 rfl rfl (mw_a54 om R C z A_22) h9i (by decide) dX12_work_27 (fun H locs hP hD hS => ?_)
      obtain ⟨A_23, hA_23⟩ : ∃ y : Nat → Nat → Int, y = hz_s A_22 54 x3 (100 + x3) := ⟨_, rfl⟩
      rw [← hA_23] at hP hD
      have hw := hw A_23 hA_23
      obtain ⟨x3_24, hx3_24⟩ : ∃ y : Int, y = x3 + 1 := ⟨_, rfl⟩
      have hw := hw x3_24 hx3_24
      refine lv_iinc (v := hz_i x3_24) (lv' := [(3, .int (hz_i x3_24)), (0, .ref om), (1, .int (hz_i y1)), (2, .int (hz_i y2))]) hx hb dX12_work_28 hl (k := 3) rfl (by rw [hx3_24]; exact hz_i_add _ _) (by decide) rfl (fun ls hl => ?_)
      refine lv_goto (tgt := 2) hx hb dX12_work_31 (by decide) ?_
      exact (hP2 A_23 x3_24).mp hw H locs ls hP hD hS (lv_sub hl [1, 2, 3, 0] rfl)
  have hP := hP0; have hD := hD0; have hS := hS0; have hl := hl0; have hw := hw0
  obtain ⟨H, hH⟩ : ∃ H : Heap, H = s.heap := ⟨_, rfl⟩
  obtain ⟨locs, hlocs⟩ : ∃ L : List Loc, L = [] := ⟨_, rfl⟩
  rw [← hH] at hP
  have hS : va_S Ad s.heap H locs := by rw [hH, hlocs]; exact hS
  refine mw_HL hH hlocs ?_
  refine lv_iconst (v := hz_i 0) hx hb dX12_work_0 (by decide +kernel) ?_
  refine lv_istore_n (lv' := [(3, .int (hz_i 0)), (0, .ref om), (1, .int (hz_i y1)), (2, .int (hz_i y2))]) hx hb dX12_work_1 rfl hl (by decide) rfl (fun ls hl => ?_)
  exact L2 A 0 hw H locs ls hP hD hS (lv_sub hl [1, 2, 3, 0] rfl)

noncomputable def wp_solve_13 (z : Nat → Int) (A : Nat → Nat → Int) (t0 : Int) (Q : (Nat → Int) → (Nat → Nat → Int) → Prop) : Prop := ∀ z_1 : Nat → Int, z_1 = lp_U z 3 t0 → hz_rI (z_1 3) ∧ ((z_1 3 ≤ 0 → wp_plansOf z_1 A (z_1 32) 0 (fun r_3 => wp_plansOf z_1 A (z_1 32) 1 (fun r_4 => wp_fill z_1 A r_3 r_4 (fun r_5 A_6 => wp_work z_1 A_6 r_3 r_4 (fun A_8 => wp_cell z_1 A_8 r_3 r_4 (fun r_9 => wp_bigSet z_1 A_8 4229 r_5 (fun A_11 => wp_bigProduct z_1 A_11 4243 4229 r_9 (fun A_13 => wp_turnSign z_1 A_13 4243 (fun A_15 => wp_bigAdd z_1 A_15 4243 4225 0 (fun A_17 => (0 ≤ z_1 32 ∧ z_1 32 < 2) ∧ wp_bigSet z_1 A_17 4230 (A_17 25 ((z_1 32).toNat)) (fun A_19 => wp_bigProduct z_1 A_19 4244 4230 r_9 (fun A_21 => wp_settle z_1 A_21 4231 (fun A_23 => ∀ A_24 : Nat → Nat → Int, A_24 = hz_s A_23 51 0 1 → Q z_1 A_24))))))))))))) ∧ (¬ (z_1 3 ≤ 0) → Q z_1 A))
noncomputable def wp_solve (z : Nat → Int) (A : Nat → Nat → Int) (Q : (Nat → Int) → (Nat → Nat → Int) → Prop) : Prop := hz_rI (z 34) ∧ ((z 34 = 0 → wp_solve_13 z A 1  Q) ∧ (¬ (z 34 = 0) → wp_solve_13 z A 0  Q))
set_option maxHeartbeats 4000000 in
set_option maxRecDepth 100000 in
theorem k_solve (l : Launch) (D : va_G) (sz : Nat) (om : Nat) (R : Nat → Nat) (C : Nat → ClassId) (z : Nat → Int) (A : Nat → Nat → Int) (Q : (Nat → Int) → (Nat → Nat → Int) → Prop) (hw : wp_solve z A Q) : Met l yX12_solve wsX12_solve ({ frames := 8, cells := 0, slots := 0, locals := 201 } : Room) (va_Pc [.ref om] (hm_P D (mw_w om R C z A) (mw_t C) sz)) (va_Qv (S := Int × (Nat → Int) × (Nat → Nat → Int)) (fun u => Q u.2.1 u.2.2) (fun u t => hm_B D (va_A (mw_w om R C z A) sz) (mw_w om R C u.2.1 u.2.2) (mw_t C) t) (va_A (mw_w om R C z A) sz)) 0 0 (va_A (mw_w om R C z A) sz) := by
  refine Met.ofW (cc := cX12_solve) (maxL := 6) (ret := none) (by decide) rfl ?_
  intro p e s m args below meth c s₁ B hml hv
  obtain ⟨rfl, hsz, hP, hK, hD0, hE⟩ := hv
  have hx := B.exec
  have hb := B.bytes
  have hr := B.returns
  have hts := atoms_spec (ws := wsX12_solve) B.pre
  have hown : s.vm.findClass RX12 = some m.cls := findClass_of_methodNamed B.named
  have hlocks := B.notSynchronized
  have hin12 : ∀ w ∈ u_ws RX12 TX12 58, w ∈ wsX12_solve := fun w h => List.mem_cons_of_mem _ (List.mem_append_right _ (h))
  subst hsz
  have hD := hD0.self (sz := s.heap.size)
  generalize hAe : va_A (mw_w om R C z A) s.heap.size = Ad at hD ⊢
  have hA : ∀ q : Nat, s.heap.size ≤ q → Ad q := fun q h => by rw [← hAe]; exact Or.inr h
  have hS : va_S Ad s.heap s.heap [] := va_S.rf
  have hl := lv_entry ([.ref om]) (n := 6) (Nat.le_of_ble_eq_true rfl)
  rw [lg_entry_eq]
  generalize (lg_sl ([.ref om]) ++ List.replicate (6 - (lg_sl ([.ref om])).length) Slot.unset).toArray = ls at hl ⊢
  have hl : lv_has ls 6 [(0, .ref om)] := hl
  refine mw_Q (fun QQ hQQ => ?_)
  have hP0 := hP; have hD0 := hD; have hS0 := hS; have hl0 := hl; have hw0 := hw
  clear hP hD hS hl hw
  have L13 : ∀ (z : Nat → Int) (A : Nat → Nat → Int) (t0 : Int), wp_solve_13 z A t0  Q → ∀ (H : Heap) (locs : List Loc) (ls : Array Slot), va_P D vwCl (mw_w om R C z A) H → va_D Ad (mw_w om R C z A) → va_S Ad s.heap H locs → lv_has ls 6 [(0, .ref om)] → W p l e (headSpec wsX12_solve ({ frames := 8, cells := 0, slots := 0, locals := 201 } : Room)).room s m (List.toArray [.ref om]) below meth c H locs 0 0 QQ (F0 m 13 ls [.int (hz_i t0), .ref om]) := by
    intro z A t0 hw H locs ls hP hD hS hl
    refine mw_put (ty := .int) (v := .int (hz_i t0)) hx hb hts hin12 hown hK hP hD hS 3 (by decide) (hts (.fieldLink RX12 223 "HiddenMovesModel" "thrown" "I") (List.mem_cons_of_mem _ (List.mem_append_left _ (List.mem_append_left _ (List.mem_of_getElem? (i := 1) rfl))))) (fun _ h9 => h9) rfl (by decide +kernel) rfl rfl (mw_s3 R z t0) dX12_solve_13 (fun H locs hP hD hS => ?_)
    obtain ⟨z_1, hz_1⟩ : ∃ y : Nat → Int, y = lp_U z 3 t0 := ⟨_, rfl⟩
    rw [← hz_1] at hP hD
    have hw := hw z_1 hz_1
    refine lv_aload_n hx hb dX12_solve_16 rfl (lv_at hl 0 rfl) ?_
    refine mw_get (v := .int (hz_i (z_1 3))) hx hb hts hin12 hown hK hP 3 (by decide) (hts (.fieldLink RX12 223 "HiddenMovesModel" "thrown" "I") (List.mem_cons_of_mem _ (List.mem_append_left _ (List.mem_append_left _ (List.mem_of_getElem? (i := 1) rfl))))) (fun _ h9 => h9) rfl dX12_solve_17 ?_
    obtain ⟨h9a, hw⟩ := hw
    refine hz_if_le (tgt := 24) hx hb dX12_solve_20 (by decide) h9a (fun c_2 => ?_) (fun c_2 => ?_)
    · have hw := hw.1 c_2
      refine lv_aload_n hx hb dX12_solve_24 rfl (lv_at hl 0 rfl) ?_
      refine lv_aload_n hx hb dX12_solve_25 rfl (lv_at hl 0 rfl) ?_
      refine mw_get (v := .int (hz_i (z_1 32))) hx hb hts hin12 hown hK hP 32 (by decide) (hts (.fieldLink RX12 328 "HiddenMovesModel" "game" "I") (List.mem_cons_of_mem _ (List.mem_append_left _ (List.mem_append_left _ (List.mem_of_getElem? (i := 2) rfl))))) (fun _ h9 => h9) rfl dX12_solve_26 ?_
      refine lv_iconst (v := hz_i 0) hx hb dX12_solve_29 (by decide +kernel) ?_
      have hFc := mw_free hD hS hA
      refine va_calli (va_runV (As := [.int (hz_i (z_1 32)), .int (hz_i 0)]) (rest := []) ⟨hx, hb, hml, hown, hts⟩ (k_plansOf l D _ om R C z_1 A (z_1 32) 0 _ hw) (cwV 2 hts gX12_solve_X12_plansOf rfl rfl rfl (by decide +kernel) ⟨Nat.le_of_ble_eq_true rfl, Nat.le_of_ble_eq_true rfl⟩) ⟨hm_blind, va_recv hK hP (ci := 12) (q0 := 0) rfl rfl, hm_pre hP hK hD hE⟩ rfl rfl hl.1 rfl (lv_room (Nat.le_of_ble_eq_true rfl)) dX12_solve_30 ⟨Nat.le_of_ble_eq_true rfl, Nat.le_of_ble_eq_true rfl⟩) hS (fun q _ h => hFc q h) hFc (fun rv u t H1 locs ht hvm hw hB hz1 hk1 hS => ?_)
      obtain ⟨r_3, _, _⟩ := u
      obtain ⟨hP, hK1, hD1⟩ := hB
      rw [ht] at hP
      obtain ⟨hrv, hw⟩ := hw
      subst hrv
      have hD := hD1.weaken (fun k q _ h => hFc q.1 h)
      have hP : va_P D vwCl (mw_w om R C z_1 A) H1 := hP
      have hD : va_D Ad (mw_w om R C z_1 A) := hD
      generalize H1 = H at hP hS ⊢
      refine W.eq (g2 := F0 m 33 ls [.int (hz_i r_3)]) rfl ?_
      refine lv_istore_n (lv' := [(1, .int (hz_i r_3)), (0, .ref om)]) hx hb dX12_solve_33 rfl hl (by decide) rfl (fun ls hl => ?_)
      refine lv_aload_n hx hb dX12_solve_34 rfl (lv_at hl 1 rfl) ?_
      refine lv_aload_n hx hb dX12_solve_35 rfl (lv_at hl 1 rfl) ?_
      refine mw_get (v := .int (hz_i (z_1 32))) hx hb hts hin12 hown hK hP 32 (by decide) (hts (.fieldLink RX12 328 "HiddenMovesModel" "game" "I") (List.mem_cons_of_mem _ (List.mem_append_left _ (List.mem_append_left _ (List.mem_of_getElem? (i := 2) rfl))))) (fun _ h9 => h9) rfl dX12_solve_36 ?_
      refine lv_iconst (v := hz_i 1) hx hb dX12_solve_39 (by decide +kernel) ?_
      have hFc := mw_free hD hS hA
      refine va_calli (va_runV (As := [.int (hz_i (z_1 32)), .int (hz_i 1)]) (rest := []) ⟨hx, hb, hml, hown, hts⟩ (k_plansOf l D _ om R C z_1 A (z_1 32) 1 _ hw) (cwV 2 hts gX12_solve_X12_plansOf rfl rfl rfl (by decide +kernel) ⟨Nat.le_of_ble_eq_true rfl, Nat.le_of_ble_eq_true rfl⟩) ⟨hm_blind, va_recv hK hP (ci := 12) (q0 := 0) rfl rfl, hm_pre hP hK hD hE⟩ rfl rfl hl.1 rfl (lv_room (Nat.le_of_ble_eq_true rfl)) dX12_solve_40 ⟨Nat.le_of_ble_eq_true rfl, Nat.le_of_ble_eq_true rfl⟩) hS (fun q _ h => hFc q h) hFc (fun rv u t H1 locs ht hvm hw hB hz1 hk1 hS => ?_)
      obtain ⟨r_4, _, _⟩ := u
      obtain ⟨hP, hK1, hD1⟩ := hB
      rw [ht] at hP
      obtain ⟨hrv, hw⟩ := hw
      subst hrv
      have hD := hD1.weaken (fun k q _ h => hFc q.1 h)
      have hP : va_P D vwCl (mw_w om R C z_1 A) H1 := hP
      have hD : va_D Ad (mw_w om R C z_1 A) := hD
      generalize H1 = H at hP hS ⊢
      refine W.eq (g2 := F0 m 43 ls [.int (hz_i r_4)]) rfl ?_
      refine lv_istore_n (lv' := [(2, .int (hz_i r_4)), (1, .int (hz_i r_3)), (0, .ref om)]) hx hb dX12_solve_43 rfl hl (by decide) rfl (fun ls hl => ?_)
      refine lv_aload_n hx hb dX12_solve_44 rfl (lv_at hl 2 rfl) ?_
      refine lv_iload_n hx hb dX12_solve_45 rfl (lv_at hl 1 rfl) ?_
      refine lv_iload_n hx hb dX12_solve_46 rfl (lv_at hl 0 rfl) ?_
      have hFc := mw_free hD hS hA
      refine va_calll (va_runV (As := [.int (hz_i r_3), .int (hz_i r_4)]) (rest := []) ⟨hx, hb, hml, hown, hts⟩ (k_fill l D _ om R C z_1 A r_3 r_4 _ hw) (cwV 2 hts gX12_solve_X12_fill rfl rfl rfl (by decide +kernel) ⟨Nat.le_of_ble_eq_true rfl, Nat.le_of_ble_eq_true rfl⟩) ⟨hm_blind, va_recv hK hP (ci := 12) (q0 := 0) rfl rfl, hm_pre hP hK hD hE⟩ rfl rfl hl.1 rfl (lv_room (Nat.le_of_ble_eq_true rfl)) dX12_solve_47 ⟨Nat.le_of_ble_eq_true rfl, Nat.le_of_ble_eq_true rfl⟩) hS (fun q _ h => hFc q h) hFc (fun rv u t H1 locs ht hvm hw hB hz1 hk1 hS => ?_)
      obtain ⟨r_5, _, A_6⟩ := u
      obtain ⟨hP, hK1, hD1⟩ := hB
      rw [ht] at hP
      obtain ⟨hrv, hw⟩ := hw
      subst hrv
      have hD := hD1.weaken (fun k q _ h => hFc q.1 h)
      have hP : va_P D vwCl (mw_w om R C z_1 A_6) H1 := hP
      have hD : va_D Ad (mw_w om R C z_1 A_6) := hD
      generalize H1 = H at hP hS ⊢
      refine W.eq (g2 := F0 m 50 ls [.long (hz_l r_5)]) rfl ?_
      refine lv_lstore_n (lv' := [(3, .long (hz_l r_5)), (2, .int (hz_i r_4)), (1, .int (hz_i r_3)), (0, .ref om)]) hx hb dX12_solve_50 rfl hl (by decide) rfl (fun ls hl => ?_)
      refine lv_aload_n hx hb dX12_solve_51 rfl (lv_at hl 3 rfl) ?_
      refine lv_iload_n hx hb dX12_solve_52 rfl (lv_at hl 2 rfl) ?_
      refine lv_iload_n hx hb dX12_solve_53 rfl (lv_at hl 1 rfl) ?_
      have hFc := mw_free hD hS hA
      refine va_callv (va_runV (As := [.int (hz_i r_3), .int (hz_i r_4)]) (rest := []) ⟨hx, hb, hml, hown, hts⟩ (k_work l D _ om R C z_1 A_6 r_3 r_4 _ hw) (cwV 2 hts gX12_solve_X12_work rfl rfl rfl (by decide +kernel) ⟨Nat.le_of_ble_eq_true rfl, Nat.le_of_ble_eq_true rfl⟩) ⟨hm_blind, va_recv hK hP (ci := 12) (q0 := 0) rfl rfl, hm_pre hP hK hD hE⟩ rfl rfl hl.1 rfl (lv_room (Nat.le_of_ble_eq_true rfl)) dX12_solve_54 ⟨Nat.le_of_ble_eq_true rfl, Nat.le_of_ble_eq_true rfl⟩) hS (fun q _ h => hFc q h) hFc (fun u t H1 locs ht hvm hw hB hz1 hk1 hS => ?_)
      obtain ⟨r_7, _, A_8⟩ := u
      obtain ⟨hP, hK1, hD1⟩ := hB
      rw [ht] at hP
      have hD := hD1.weaken (fun k q _ h => hFc q.1 h)
      have hP : va_P D vwCl (mw_w om R C z_1 A_8) H1 := hP
      have hD : va_D Ad (mw_w om R C z_1 A_8) := hD
      generalize H1 = H at hP hS ⊢
      refine W.eq (g2 := F0 m 57 ls []) rfl ?_
      refine lv_aload_n hx hb dX12_solve_57 rfl (lv_at hl 3 rfl) ?_
      refine lv_iload_n hx hb dX12_solve_58 rfl (lv_at hl 2 rfl) ?_
      refine lv_iload_n hx hb dX12_solve_59 rfl (lv_at hl 1 rfl) ?_
      have hFc := mw_free hD hS hA
      refine va_calli (va_runV (As := [.int (hz_i r_3), .int (hz_i r_4)]) (rest := []) ⟨hx, hb, hml, hown, hts⟩ (k_cell l D _ om R C z_1 A_8 r_3 r_4 _ hw) (cwV 2 hts gX12_solve_X12_cell rfl rfl rfl (by decide +kernel) ⟨Nat.le_of_ble_eq_true rfl, Nat.le_of_ble_eq_true rfl⟩) ⟨hm_blind, va_recv hK hP (ci := 12) (q0 := 0) rfl rfl, hm_pre hP hK hD hE⟩ rfl rfl hl.1 rfl (lv_room (Nat.le_of_ble_eq_true rfl)) dX12_solve_60 ⟨Nat.le_of_ble_eq_true rfl, Nat.le_of_ble_eq_true rfl⟩) hS (fun q _ h => hFc q h) hFc (fun rv u t H1 locs ht hvm hw hB hz1 hk1 hS => ?_)
      obtain ⟨r_9, _, _⟩ := u
      obtain ⟨hP, hK1, hD1⟩ := hB
      rw [ht] at hP
      obtain ⟨hrv, hw⟩ := hw
      subst hrv
      have hD := hD1.weaken (fun k q _ h => hFc q.1 h)
      have hP : va_P D vwCl (mw_w om R C z_1 A_8) H1 := hP
      have hD : va_D Ad (mw_w om R C z_1 A_8) := hD
      generalize H1 = H at hP hS ⊢
      refine W.eq (g2 := F0 m 63 ls [.int (hz_i r_9)]) rfl ?_
      refine lv_istore (lv' := [(5, .int (hz_i r_9)), (3, .long (hz_l r_5)), (2, .int (hz_i r_4)), (1, .int (hz_i r_3)), (0, .ref om)]) hx hb dX12_solve_63 hl (by decide) rfl (fun ls hl => ?_)
      refine lv_aload_n hx hb dX12_solve_65 rfl (lv_at hl 4 rfl) ?_
      refine lv_sipush (v := hz_i 4229) hx hb dX12_solve_66 (by decide +kernel) ?_
      refine lv_lload_n hx hb dX12_solve_69 rfl (lv_at hl 1 rfl) ?_
      have hFc := mw_free hD hS hA
      refine va_callv (va_runV (As := [.int (hz_i 4229), .long (hz_l r_5)]) (rest := []) ⟨hx, hb, hml, hown, hts⟩ (k_bigSet l D _ om R C z_1 A_8 4229 r_5 _ hw) (cwV 2 hts gX12_solve_X12_bigSet rfl rfl rfl (by decide +kernel) ⟨Nat.le_of_ble_eq_true rfl, Nat.le_of_ble_eq_true rfl⟩) ⟨hm_blind, va_recv hK hP (ci := 12) (q0 := 0) rfl rfl, hm_pre hP hK hD hE⟩ rfl rfl hl.1 rfl (lv_room (Nat.le_of_ble_eq_true rfl)) dX12_solve_70 ⟨Nat.le_of_ble_eq_true rfl, Nat.le_of_ble_eq_true rfl⟩) hS (fun q _ h => hFc q h) hFc (fun u t H1 locs ht hvm hw hB hz1 hk1 hS => ?_)
      obtain ⟨r_10, _, A_11⟩ := u
      obtain ⟨hP, hK1, hD1⟩ := hB
      rw [ht] at hP
      have hD := hD1.weaken (fun k q _ h => hFc q.1 h)
      have hP : va_P D vwCl (mw_w om R C z_1 A_11) H1 := hP
      have hD : va_D Ad (mw_w om R C z_1 A_11) := hD
      generalize H1 = H at hP hS ⊢
      refine W.eq (g2 := F0 m 73 ls []) rfl ?_
      refine lv_aload_n hx hb dX12_solve_73 rfl (lv_at hl 4 rfl) ?_
      refine lv_sipush (v := hz_i 4243) hx hb dX12_solve_74 (by decide +kernel) ?_
      refine lv_sipush (v := hz_i 4229) hx hb dX12_solve_77 (by decide +kernel) ?_
      refine lv_iload hx hb dX12_solve_80 (lv_at hl 0 rfl) ?_
      have hFc := mw_free hD hS hA
      refine va_callv (va_runV (As := [.int (hz_i 4243), .int (hz_i 4229), .int (hz_i r_9)]) (rest := []) ⟨hx, hb, hml, hown, hts⟩ (k_bigProduct l D _ om R C z_1 A_11 4243 4229 r_9 _ hw) (cwV 3 hts gX12_solve_X12_bigProduct rfl rfl rfl (by decide +kernel) ⟨Nat.le_of_ble_eq_true rfl, Nat.le_of_ble_eq_true rfl⟩) ⟨hm_blind, va_recv hK hP (ci := 12) (q0 := 0) rfl rfl, hm_pre hP hK hD hE⟩ rfl rfl hl.1 rfl (lv_room (Nat.le_of_ble_eq_true rfl)) dX12_solve_82 ⟨Nat.le_of_ble_eq_true rfl, Nat.le_of_ble_eq_true rfl⟩) hS (fun q _ h => hFc q h) hFc (fun u t H1 locs ht hvm hw hB hz1 hk1 hS => ?_)
      obtain ⟨r_12, _, A_13⟩ := u
      obtain ⟨hP, hK1, hD1⟩ := hB
      rw [ht] at hP
      have hD := hD1.weaken (fun k q _ h => hFc q.1 h)
      have hP : va_P D vwCl (mw_w om R C z_1 A_13) H1 := hP
      have hD : va_D Ad (mw_w om R C z_1 A_13) := hD
      generalize H1 = H at hP hS ⊢
      refine W.eq (g2 := F0 m 85 ls []) rfl ?_
      refine lv_aload_n hx hb dX12_solve_85 rfl (lv_at hl 4 rfl) ?_
      refine lv_sipush (v := hz_i 4243) hx hb dX12_solve_86 (by decide +kernel) ?_
      have hFc := mw_free hD hS hA
      refine va_callv (va_runV (As := [.int (hz_i 4243)]) (rest := []) ⟨hx, hb, hml, hown, hts⟩ (k_turnSign l D _ om R C z_1 A_13 4243 _ hw) (cwV 1 hts gX12_solve_X12_turnSign rfl rfl rfl (by decide +kernel) ⟨Nat.le_of_ble_eq_true rfl, Nat.le_of_ble_eq_true rfl⟩) ⟨hm_blind, va_recv hK hP (ci := 12) (q0 := 0) rfl rfl, hm_pre hP hK hD hE⟩ rfl rfl hl.1 rfl (lv_room (Nat.le_of_ble_eq_true rfl)) dX12_solve_89 ⟨Nat.le_of_ble_eq_true rfl, Nat.le_of_ble_eq_true rfl⟩) hS (fun q _ h => hFc q h) hFc (fun u t H1 locs ht hvm hw hB hz1 hk1 hS => ?_)
      obtain ⟨r_14, _, A_15⟩ := u
      obtain ⟨hP, hK1, hD1⟩ := hB
      rw [ht] at hP
      have hD := hD1.weaken (fun k q _ h => hFc q.1 h)
      have hP : va_P D vwCl (mw_w om R C z_1 A_15) H1 := hP
      have hD : va_D Ad (mw_w om R C z_1 A_15) := hD
      generalize H1 = H at hP hS ⊢
      refine W.eq (g2 := F0 m 92 ls []) rfl ?_
      refine lv_aload_n hx hb dX12_solve_92 rfl (lv_at hl 4 rfl) ?_
      refine lv_sipush (v := hz_i 4243) hx hb dX12_solve_93 (by decide +kernel) ?_
      refine lv_sipush (v := hz_i 4225) hx hb dX12_solve_96 (by decide +kernel) ?_
      refine lv_iconst (v := hz_i 0) hx hb dX12_solve_99 (by decide +kernel) ?_
      have hFc := mw_free hD hS hA
      refine va_callv (va_runV (As := [.int (hz_i 4243), .int (hz_i 4225), .int (hz_i 0)]) (rest := []) ⟨hx, hb, hml, hown, hts⟩ (k_bigAdd l D _ om R C z_1 A_15 4243 4225 0 _ hw) (cwV 3 hts gX12_solve_X12_bigAdd rfl rfl rfl (by decide +kernel) ⟨Nat.le_of_ble_eq_true rfl, Nat.le_of_ble_eq_true rfl⟩) ⟨hm_blind, va_recv hK hP (ci := 12) (q0 := 0) rfl rfl, hm_pre hP hK hD hE⟩ rfl rfl hl.1 rfl (lv_room (Nat.le_of_ble_eq_true rfl)) dX12_solve_100 ⟨Nat.le_of_ble_eq_true rfl, Nat.le_of_ble_eq_true rfl⟩) hS (fun q _ h => hFc q h) hFc (fun u t H1 locs ht hvm hw hB hz1 hk1 hS => ?_)
      obtain ⟨r_16, _, A_17⟩ := u
      obtain ⟨hP, hK1, hD1⟩ := hB
      rw [ht] at hP
      have hD := hD1.weaken (fun k q _ h => hFc q.1 h)
      have hP : va_P D vwCl (mw_w om R C z_1 A_17) H1 := hP
      have hD : va_D Ad (mw_w om R C z_1 A_17) := hD
      generalize H1 = H at hP hS ⊢
      refine W.eq (g2 := F0 m 103 ls []) rfl ?_
      refine lv_aload_n hx hb dX12_solve_103 rfl (lv_at hl 4 rfl) ?_
      refine lv_sipush (v := hz_i 4230) hx hb dX12_solve_104 (by decide +kernel) ?_
      refine lv_aload_n hx hb dX12_solve_107 rfl (lv_at hl 4 rfl) ?_
      refine mw_get (v := .ref (R 25)) hx hb hts hin12 hown hK hP 25 (by decide) (hts (.fieldLink RX12 151 "HiddenMovesModel" "common" "[J") (List.mem_cons_of_mem _ (List.mem_append_left _ (List.mem_append_left _ (List.mem_of_getElem? (i := 3) rfl))))) (fun _ h9 => h9) rfl dX12_solve_108 ?_
      refine lv_aload_n hx hb dX12_solve_111 rfl (lv_at hl 4 rfl) ?_
      refine mw_get (v := .int (hz_i (z_1 32))) hx hb hts hin12 hown hK hP 32 (by decide) (hts (.fieldLink RX12 328 "HiddenMovesModel" "game" "I") (List.mem_cons_of_mem _ (List.mem_append_left _ (List.mem_append_left _ (List.mem_of_getElem? (i := 2) rfl))))) (fun _ h9 => h9) rfl dX12_solve_112 ?_
      obtain ⟨h9i, hw⟩ := hw
      refine mw_lld (k := 25) (n := 2) (i := z_1 32) hx hb hK hP 21 20 rfl rfl h9i (by decide) dX12_solve_115 ?_
      have hFc := mw_free hD hS hA
      refine va_callv (va_runV (As := [.int (hz_i 4230), .long (hz_l (A_17 25 ((z_1 32).toNat)))]) (rest := []) ⟨hx, hb, hml, hown, hts⟩ (k_bigSet l D _ om R C z_1 A_17 4230 (A_17 25 ((z_1 32).toNat)) _ hw) (cwV 2 hts gX12_solve_X12_bigSet rfl rfl rfl (by decide +kernel) ⟨Nat.le_of_ble_eq_true rfl, Nat.le_of_ble_eq_true rfl⟩) ⟨hm_blind, va_recv hK hP (ci := 12) (q0 := 0) rfl rfl, hm_pre hP hK hD hE⟩ rfl rfl hl.1 rfl (lv_room (Nat.le_of_ble_eq_true rfl)) dX12_solve_116 ⟨Nat.le_of_ble_eq_true rfl, Nat.le_of_ble_eq_true rfl⟩) hS (fun q _ h => hFc q h) hFc (fun u t H1 locs ht hvm hw hB hz1 hk1 hS => ?_)
      obtain ⟨r_18, _, A_19⟩ := u
      obtain ⟨hP, hK1, hD1⟩ := hB
      rw [ht] at hP
      have hD := hD1.weaken (fun k q _ h => hFc q.1 h)
      have hP : va_P D vwCl (mw_w om R C z_1 A_19) H1 := hP
      have hD : va_D Ad (mw_w om R C z_1 A_19) := hD
      generalize H1 = H at hP hS ⊢
      refine W.eq (g2 := F0 m 119 ls []) rfl ?_
      refine lv_aload_n hx hb dX12_solve_119 rfl (lv_at hl 4 rfl) ?_
      refine lv_sipush (v := hz_i 4244) hx hb dX12_solve_120 (by decide +kernel) ?_
      refine lv_sipush (v := hz_i 4230) hx hb dX12_solve_123 (by decide +kernel) ?_
      refine lv_iload hx hb dX12_solve_126 (lv_at hl 0 rfl) ?_
      have hFc := mw_free hD hS hA
      refine va_callv (va_runV (As := [.int (hz_i 4244), .int (hz_i 4230), .int (hz_i r_9)]) (rest := []) ⟨hx, hb, hml, hown, hts⟩ (k_bigProduct l D _ om R C z_1 A_19 4244 4230 r_9 _ hw) (cwV 3 hts gX12_solve_X12_bigProduct rfl rfl rfl (by decide +kernel) ⟨Nat.le_of_ble_eq_true rfl, Nat.le_of_ble_eq_true rfl⟩) ⟨hm_blind, va_recv hK hP (ci := 12) (q0 := 0) rfl rfl, hm_pre hP hK hD hE⟩ rfl rfl hl.1 rfl (lv_room (Nat.le_of_ble_eq_true rfl)) dX12_solve_128 ⟨Nat.le_of_ble_eq_true rfl, Nat.le_of_ble_eq_true rfl⟩) hS (fun q _ h => hFc q h) hFc (fun u t H1 locs ht hvm hw hB hz1 hk1 hS => ?_)
      obtain ⟨r_20, _, A_21⟩ := u
      obtain ⟨hP, hK1, hD1⟩ := hB
      rw [ht] at hP
      have hD := hD1.weaken (fun k q _ h => hFc q.1 h)
      have hP : va_P D vwCl (mw_w om R C z_1 A_21) H1 := hP
      have hD : va_D Ad (mw_w om R C z_1 A_21) := hD
      generalize H1 = H at hP hS ⊢
      refine W.eq (g2 := F0 m 131 ls []) rfl ?_
      refine lv_aload_n hx hb dX12_solve_131 rfl (lv_at hl 4 rfl) ?_
      refine lv_sipush (v := hz_i 4231) hx hb dX12_solve_132 (by decide +kernel) ?_
      have hFc := mw_free hD hS hA
      refine va_callv (va_runV (As := [.int (hz_i 4231)]) (rest := []) ⟨hx, hb, hml, hown, hts⟩ (k_settle l D _ om R C z_1 A_21 4231 _ hw) (cwV 1 hts gX12_solve_X12_settle rfl rfl rfl (by decide +kernel) ⟨Nat.le_of_ble_eq_true rfl, Nat.le_of_ble_eq_true rfl⟩) ⟨hm_blind, va_recv hK hP (ci := 12) (q0 := 0) rfl rfl, hm_pre hP hK hD hE⟩ rfl rfl hl.1 rfl (lv_room (Nat.le_of_ble_eq_true rfl)) dX12_solve_135 ⟨Nat.le_of_ble_eq_true rfl, Nat.le_of_ble_eq_true rfl⟩) hS (fun q _ h => hFc q h) hFc (fun u t H1 locs ht hvm hw hB hz1 hk1 hS => ?_)
      obtain ⟨r_22, _, A_23⟩ := u
      obtain ⟨hP, hK1, hD1⟩ := hB
      rw [ht] at hP
      have hD := hD1.weaken (fun k q _ h => hFc q.1 h)
      have hP : va_P D vwCl (mw_w om R C z_1 A_23) H1 := hP
      have hD : va_D Ad (mw_w om R C z_1 A_23) := hD
      generalize H1 = H at hP hS ⊢
      refine W.eq (g2 := F0 m 138 ls []) rfl ?_
      refine lv_aload_n hx hb dX12_solve_138 rfl (lv_at hl 4 rfl) ?_
      refine mw_get (v := .ref (R 51)) hx hb hts hin12 hown hK hP 51 (by decide) (hts (.fieldLink RX12 205 "HiddenMovesModel" "isThere" "[Z") (List.mem_cons_of_mem _ (List.mem_append_left _ (List.mem_append_left _ (List.mem_of_getElem? (i := 4) rfl))))) (fun _ h9 => h9) rfl dX12_solve_139 ?_
      refine lv_iconst (v := hz_i 0) hx hb dX12_solve_142 (by decide +kernel) ?_
      refine lv_iconst (v := hz_i 1) hx hb dX12_solve_143 (by decide +kernel) ?_
      refine mw_zst (k := 51) (n := 4) (i := 0) (v := 1) hx hb hK hP hD hS 38 37 rfl rfl (mw_a51 om R C z_1 A_23) (by decide) (by decide) (by decide) dX12_solve_144 (fun H locs hP hD hS => ?_)
      obtain ⟨A_24, hA_24⟩ : ∃ y : Nat → Nat → Int, y = hz_s A_23 51 0 1 := ⟨_, rfl⟩
      rw [← hA_24] at hP hD
      have hw := hw A_24 hA_24
      subst hQQ
      subst hAe
      exact W.vret hx hb hr (fun t ht hW => ⟨⟨(0, z_1, A_24), rfl, hw, by rw [ht]; exact hP, va_K.moved hW.alike hK, hD⟩, hS.F ht⟩) hS.2.2 dX12_solve_145
    · have hw := hw.2 c_2
      subst hQQ
      subst hAe
      exact W.vret hx hb hr (fun t ht hW => ⟨⟨(0, z_1, A), rfl, hw, by rw [ht]; exact hP, va_K.moved hW.alike hK, hD⟩, hS.F ht⟩) hS.2.2 dX12_solve_23
  have hP := hP0; have hD := hD0; have hS := hS0; have hl := hl0; have hw := hw0
  obtain ⟨H, hH⟩ : ∃ H : Heap, H = s.heap := ⟨_, rfl⟩
  obtain ⟨locs, hlocs⟩ : ∃ L : List Loc, L = [] := ⟨_, rfl⟩
  rw [← hH] at hP
  have hS : va_S Ad s.heap H locs := by rw [hH, hlocs]; exact hS
  refine mw_HL hH hlocs ?_
  refine lv_aload_n hx hb dX12_solve_0 rfl (lv_at hl 0 rfl) ?_
  refine lv_aload_n hx hb dX12_solve_1 rfl (lv_at hl 0 rfl) ?_
  refine mw_get (v := .int (hz_i (z 34))) hx hb hts hin12 hown hK hP 34 (by decide) (hts (.fieldLink RX12 331 "HiddenMovesModel" "known" "Z") (List.mem_cons_of_mem _ (List.mem_append_left _ (List.mem_append_left _ (List.mem_of_getElem? (i := 0) rfl))))) (fun _ h9 => h9) rfl dX12_solve_2 ?_
  obtain ⟨h9a, hw⟩ := hw
  refine hz_if_eq (tgt := 12) hx hb dX12_solve_5 (by decide) h9a (fun c_25 => ?_) (fun c_25 => ?_)
  · have hw := hw.1 c_25
    refine lv_iconst (v := hz_i 1) hx hb dX12_solve_12 (by decide +kernel) ?_
    exact L13 z A 1 hw H locs ls hP hD hS (lv_sub hl [0] rfl)
  · have hw := hw.2 c_25
    refine lv_iconst (v := hz_i 0) hx hb dX12_solve_8 (by decide +kernel) ?_
    refine lv_goto (tgt := 13) hx hb dX12_solve_9 (by decide) ?_
    exact L13 z A 0 hw H locs ls hP hD hS (lv_sub hl [0] rfl)

noncomputable def wp_has_23 (z : Nat → Int) (A : Nat → Nat → Int) (t0 : Int) (Q : Int → Prop) : Prop := (t0 = 0 ∨ t0 = 1) ∧ Q t0
noncomputable def wp_has_22 (z : Nat → Int) (A : Nat → Nat → Int) (Q : Int → Prop) : Prop := wp_has_23 z A 0  Q
noncomputable def wp_has (z : Nat → Int) (A : Nat → Nat → Int) (y1 : Int) (Q : Int → Prop) : Prop := hz_rI y1 ∧ ((y1 < 0 → wp_has_22 z A  Q) ∧ (¬ (y1 < 0) → hz_rI y1 ∧ ((4 ≤ y1 → wp_has_22 z A  Q) ∧ (¬ (4 ≤ y1) → (0 ≤ y1 ∧ y1 < 4) ∧ hz_rI (A 51 (y1.toNat)) ∧ ((A 51 (y1.toNat) = 0 → wp_has_22 z A  Q) ∧ (¬ (A 51 (y1.toNat) = 0) → wp_has_23 z A 1  Q))))))
set_option maxHeartbeats 4000000 in
set_option maxRecDepth 100000 in
theorem k_has (l : Launch) (D : va_G) (sz : Nat) (om : Nat) (R : Nat → Nat) (C : Nat → ClassId) (z : Nat → Int) (A : Nat → Nat → Int) (y1 : Int) (Q : Int → Prop) (hw : wp_has z A y1 Q) : Met l yX12_has wsX12_has ({ frames := 0, cells := 0, slots := 0, locals := 0 } : Room) (va_Pc [.ref om, .int (hz_i y1)] (hm_P D (mw_w om R C z A) (mw_t C) sz)) (va_Qi (S := Int × (Nat → Int) × (Nat → Nat → Int)) (fun r u => r = hz_i u.1 ∧ Q u.1) (fun u t => hm_B D (va_A (mw_w om R C z A) sz) (mw_w om R C z A) (mw_t C) t) (va_A (mw_w om R C z A) sz)) 0 0 (va_A (mw_w om R C z A) sz) := by
  refine Met.ofW (cc := cX12_has) (maxL := 2) (ret := (some .boolean)) (by decide) rfl ?_
  intro p e s m args below meth c s₁ B hml hv
  obtain ⟨rfl, hsz, hP, hK, hD0, hE⟩ := hv
  have hx := B.exec
  have hb := B.bytes
  have hr := B.returns
  have hts := atoms_spec (ws := wsX12_has) B.pre
  have hown : s.vm.findClass RX12 = some m.cls := findClass_of_methodNamed B.named
  have hlocks := B.notSynchronized
  have hin12 : ∀ w ∈ u_ws RX12 TX12 58, w ∈ wsX12_has := fun w h => List.mem_cons_of_mem _ (List.mem_append_right _ (h))
  subst hsz
  have hD := hD0.self (sz := s.heap.size)
  generalize hAe : va_A (mw_w om R C z A) s.heap.size = Ad at hD ⊢
  have hA : ∀ q : Nat, s.heap.size ≤ q → Ad q := fun q h => by rw [← hAe]; exact Or.inr h
  have hS : va_S Ad s.heap s.heap [] := va_S.rf
  have hl := lv_entry ([.ref om, .int (hz_i y1)]) (n := 2) (Nat.le_of_ble_eq_true rfl)
  rw [lg_entry_eq]
  generalize (lg_sl ([.ref om, .int (hz_i y1)]) ++ List.replicate (2 - (lg_sl ([.ref om, .int (hz_i y1)])).length) Slot.unset).toArray = ls at hl ⊢
  have hl : lv_has ls 2 [(0, .ref om), (1, .int (hz_i y1))] := hl
  refine mw_Q (fun QQ hQQ => ?_)
  have hP0 := hP; have hD0 := hD; have hS0 := hS; have hl0 := hl; have hw0 := hw
  clear hP hD hS hl hw
  have L23 : ∀ (t0 : Int), wp_has_23 z A t0  Q → ∀ (H : Heap) (locs : List Loc) (ls : Array Slot), va_P D vwCl (mw_w om R C z A) H → va_D Ad (mw_w om R C z A) → va_S Ad s.heap H locs → lv_has ls 2 [(0, .ref om)] → W p l e (headSpec wsX12_has ({ frames := 0, cells := 0, slots := 0, locals := 0 } : Room)).room s m (List.toArray [.ref om, .int (hz_i y1)]) below meth c H locs 0 0 QQ (F0 m 23 ls [.int (hz_i t0)]) := by
    intro t0 hw H locs ls hP hD hS hl
    obtain ⟨h9z, hw⟩ := hw
    subst hQQ
    subst hAe
    exact W.zret (v := hz_i t0) hx hb hr (hz_tZ h9z) (fun t ht hW => ⟨⟨hz_i t0, (t0, z, A), rfl, ⟨rfl, hw⟩, by rw [ht]; exact hP, va_K.moved hW.alike hK, hD⟩, hS.F ht⟩) hS.2.2 dX12_has_23
  have L22 : wp_has_22 z A  Q → ∀ (H : Heap) (locs : List Loc) (ls : Array Slot), va_P D vwCl (mw_w om R C z A) H → va_D Ad (mw_w om R C z A) → va_S Ad s.heap H locs → lv_has ls 2 [(0, .ref om)] → W p l e (headSpec wsX12_has ({ frames := 0, cells := 0, slots := 0, locals := 0 } : Room)).room s m (List.toArray [.ref om, .int (hz_i y1)]) below meth c H locs 0 0 QQ (F0 m 22 ls []) := by
    intro  hw H locs ls hP hD hS hl
    refine lv_iconst (v := hz_i 0) hx hb dX12_has_22 (by decide +kernel) ?_
    exact L23 0 hw H locs ls hP hD hS (lv_sub hl [0] rfl)
  have hP := hP0; have hD := hD0; have hS := hS0; have hl := hl0; have hw := hw0
  obtain ⟨H, hH⟩ : ∃ H : Heap, H = s.heap := ⟨_, rfl⟩
  obtain ⟨locs, hlocs⟩ : ∃ L : List Loc, L = [] := ⟨_, rfl⟩
  rw [← hH] at hP
  have hS : va_S Ad s.heap H locs := by rw [hH, hlocs]; exact hS
  refine mw_HL hH hlocs ?_
  refine lv_iload_n hx hb dX12_has_0 rfl (lv_at hl 1 rfl) ?_
  obtain ⟨h9a, hw⟩ := hw
  refine hz_if_lt (tgt := 22) hx hb dX12_has_1 (by decide) h9a (fun c_1 => ?_) (fun c_1 => ?_)
  · have hw := hw.1 c_1
    exact L22  hw H locs ls hP hD hS (lv_sub hl [0] rfl)
  · have hw := hw.2 c_1
    refine lv_iload_n hx hb dX12_has_4 rfl (lv_at hl 1 rfl) ?_
    refine lv_iconst (v := hz_i 4) hx hb dX12_has_5 (by decide +kernel) ?_
    obtain ⟨h9a, hw⟩ := hw
    refine hz_icmp_ge (tgt := 22) hx hb dX12_has_6 (by decide) h9a ⟨by decide, by decide⟩ (fun c_2 => ?_) (fun c_2 => ?_)
    · have hw := hw.1 c_2
      exact L22  hw H locs ls hP hD hS (lv_sub hl [0] rfl)
    · have hw := hw.2 c_2
      refine lv_aload_n hx hb dX12_has_9 rfl (lv_at hl 0 rfl) ?_
      refine mw_get (v := .ref (R 51)) hx hb hts hin12 hown hK hP 51 (by decide) (hts (.fieldLink RX12 205 "HiddenMovesModel" "isThere" "[Z") (List.mem_cons_of_mem _ (List.mem_append_left _ (List.mem_of_getElem? (i := 0) rfl)))) (fun _ h9 => h9) rfl dX12_has_10 ?_
      refine lv_iload_n hx hb dX12_has_13 rfl (lv_at hl 1 rfl) ?_
      obtain ⟨h9i, hw⟩ := hw
      refine mw_zld (k := 51) (n := 4) (i := y1) hx hb hK hP 38 37 rfl rfl h9i (by decide) dX12_has_14 ?_
      obtain ⟨h9a, hw⟩ := hw
      refine hz_if_eq (tgt := 22) hx hb dX12_has_15 (by decide) h9a (fun c_3 => ?_) (fun c_3 => ?_)
      · have hw := hw.1 c_3
        exact L22  hw H locs ls hP hD hS (lv_sub hl [0] rfl)
      · have hw := hw.2 c_3
        refine lv_iconst (v := hz_i 1) hx hb dX12_has_18 (by decide +kernel) ?_
        refine lv_goto (tgt := 23) hx hb dX12_has_19 (by decide) ?_
        exact L23 1 hw H locs ls hP hD hS (lv_sub hl [0] rfl)

noncomputable def wp_say_62 (z : Nat → Int) (A : Nat → Nat → Int) (x3 : Int) (x4 : Int) (Q : (Nat → Int) → (Nat → Nat → Int) → Prop) : Prop := ∀ P62 : (Nat → Nat → Int) → Int → Int → Prop, (∀ (A : Nat → Nat → Int) (x3 : Int) (x4 : Int), hz_rI x3 ∧ hz_rI x4 ∧ ((x4 ≤ x3 → Q z A) ∧ (¬ (x4 ≤ x3) → (0 ≤ x3 ∧ x3 < 2000) ∧ ∀ x5_2 : Int, x5_2 = A 56 (x3.toNat) → (0 ≤ x4 ∧ x4 < 2000) ∧ (0 ≤ x3 ∧ x3 < 2000) ∧ ∀ A_3 : Nat → Nat → Int, A_3 = hz_s A 56 x3 (A 56 (x4.toNat)) → (0 ≤ x4 ∧ x4 < 2000) ∧ ∀ A_4 : Nat → Nat → Int, A_4 = hz_s A_3 56 x4 x5_2 → ∀ x3_5 : Int, x3_5 = x3 + 1 → ∀ x4_6 : Int, x4_6 = x4 + (-1) → P62 A_4 x3_5 x4_6)) → P62 A x3 x4) → P62 A x3 x4
noncomputable def wp_say_13 (z : Nat → Int) (A : Nat → Nat → Int) (x2 : Int) (Q : (Nat → Int) → (Nat → Nat → Int) → Prop) : Prop := ∀ P13 : (Nat → Int) → (Nat → Nat → Int) → Prop, (∀ (z : Nat → Int) (A : Nat → Nat → Int), wp_bigTenth z A 4228 (fun r_7 A_8 => (0 ≤ z 57 ∧ z 57 < 2000) ∧ ∀ A_9 : Nat → Nat → Int, A_9 = hz_s A_8 56 (z 57) (48 + r_7) → ∀ z_10 : Nat → Int, z_10 = lp_U z 57 ((z 57) + 1) → wp_bigIsZero z_10 A_9 4228 (fun r_11 => hz_rI r_11 ∧ ((r_11 = 0 → P13 z_10 A_9) ∧ (¬ (r_11 = 0) → ∀ x4_13 : Int, x4_13 = (z_10 57) - 1 → wp_say_62 z_10 A_9 x2 x4_13  Q)))) → P13 z A) → P13 z A
noncomputable def wp_say (z : Nat → Int) (A : Nat → Nat → Int) (y1 : Int) (Q : (Nat → Int) → (Nat → Nat → Int) → Prop) : Prop := wp_bigCopy z A 4228 y1 (fun A_15 => ∀ x2_16 : Int, x2_16 = z 57 → wp_say_13 z A_15 x2_16  Q)
set_option maxHeartbeats 4000000 in
set_option maxRecDepth 100000 in
theorem k_say (l : Launch) (D : va_G) (sz : Nat) (om : Nat) (R : Nat → Nat) (C : Nat → ClassId) (z : Nat → Int) (A : Nat → Nat → Int) (y1 : Int) (Q : (Nat → Int) → (Nat → Nat → Int) → Prop) (hw : wp_say z A y1 Q) : Met l yX12_say wsX12_say ({ frames := 3, cells := 0, slots := 0, locals := 65 } : Room) (va_Pc [.ref om, .int (hz_i y1)] (hm_P D (mw_w om R C z A) (mw_t C) sz)) (va_Qv (S := Int × (Nat → Int) × (Nat → Nat → Int)) (fun u => Q u.2.1 u.2.2) (fun u t => hm_B D (va_A (mw_w om R C z A) sz) (mw_w om R C u.2.1 u.2.2) (mw_t C) t) (va_A (mw_w om R C z A) sz)) 0 0 (va_A (mw_w om R C z A) sz) := by
  refine Met.ofW (cc := cX12_say) (maxL := 6) (ret := none) (by decide) rfl ?_
  intro p e s m args below meth c s₁ B hml hv
  obtain ⟨rfl, hsz, hP, hK, hD0, hE⟩ := hv
  have hx := B.exec
  have hb := B.bytes
  have hr := B.returns
  have hts := atoms_spec (ws := wsX12_say) B.pre
  have hown : s.vm.findClass RX12 = some m.cls := findClass_of_methodNamed B.named
  have hlocks := B.notSynchronized
  have hin12 : ∀ w ∈ u_ws RX12 TX12 58, w ∈ wsX12_say := fun w h => List.mem_cons_of_mem _ (List.mem_append_right _ (h))
  subst hsz
  have hD := hD0.self (sz := s.heap.size)
  generalize hAe : va_A (mw_w om R C z A) s.heap.size = Ad at hD ⊢
  have hA : ∀ q : Nat, s.heap.size ≤ q → Ad q := fun q h => by rw [← hAe]; exact Or.inr h
  have hS : va_S Ad s.heap s.heap [] := va_S.rf
  have hl := lv_entry ([.ref om, .int (hz_i y1)]) (n := 6) (Nat.le_of_ble_eq_true rfl)
  rw [lg_entry_eq]
  generalize (lg_sl ([.ref om, .int (hz_i y1)]) ++ List.replicate (6 - (lg_sl ([.ref om, .int (hz_i y1)])).length) Slot.unset).toArray = ls at hl ⊢
  have hl : lv_has ls 6 [(0, .ref om), (1, .int (hz_i y1))] := hl
  refine mw_Q (fun QQ hQQ => ?_)
  have hP0 := hP; have hD0 := hD; have hS0 := hS; have hl0 := hl; have hw0 := hw
  clear hP hD hS hl hw
  have L62 : ∀ (z : Nat → Int) (A : Nat → Nat → Int) (x3 : Int) (x4 : Int), wp_say_62 z A x3 x4  Q → ∀ (H : Heap) (locs : List Loc) (ls : Array Slot), va_P D vwCl (mw_w om R C z A) H → va_D Ad (mw_w om R C z A) → va_S Ad s.heap H locs → lv_has ls 6 [(0, .ref om), (3, .int (hz_i x3)), (4, .int (hz_i x4))] → W p l e (headSpec wsX12_say ({ frames := 3, cells := 0, slots := 0, locals := 65 } : Room)).room s m (List.toArray [.ref om, .int (hz_i y1)]) below meth c H locs 0 0 QQ (F0 m 62 ls []) := by
    intro z A x3 x4 hw
    obtain ⟨P62, hP62⟩ : ∃ P : (Nat → Nat → Int) → Int → Int → Prop, ∀ (A : Nat → Nat → Int) (x3 : Int) (x4 : Int), P A x3 x4 ↔ (∀ (H : Heap) (locs : List Loc) (ls : Array Slot), va_P D vwCl (mw_w om R C z A) H → va_D Ad (mw_w om R C z A) → va_S Ad s.heap H locs → lv_has ls 6 [(0, .ref om), (3, .int (hz_i x3)), (4, .int (hz_i x4))] → W p l e (headSpec wsX12_say ({ frames := 3, cells := 0, slots := 0, locals := 65 } : Room)).room s m (List.toArray [.ref om, .int (hz_i y1)]) below meth c H locs 0 0 QQ (F0 m 62 ls [])) := ⟨fun (A : Nat → Nat → Int) (x3 : Int) (x4 : Int) => ∀ (H : Heap) (locs : List Loc) (ls : Array Slot), va_P D vwCl (mw_w om R C z A) H → va_D Ad (mw_w om R C z A) → va_S Ad s.heap H locs → lv_has ls 6 [(0, .ref om), (3, .int (hz_i x3)), (4, .int (hz_i x4))] → W p l e (headSpec wsX12_say ({ frames := 3, cells := 0, slots := 0, locals := 65 } : Room)).room s m (List.toArray [.ref om, .int (hz_i y1)]) below meth c H locs 0 0 QQ (F0 m 62 ls []), fun _ _ _ => Iff.rfl⟩
    refine (hP62 A x3 x4).mp (hw P62 ?_)
    intro A x3 x4 hw
    refine (hP62 A x3 x4).mpr ?_
    intro H locs ls hP hD hS hl
    refine lv_iload_n hx hb dX12_say_62 rfl (lv_at hl 1 rfl) ?_
    refine lv_iload hx hb dX12_say_63 (lv_at hl 2 rfl) ?_
    obtain ⟨h9a, hw⟩ := hw
    obtain ⟨h9b, hw⟩ := hw
    refine hz_icmp_ge (tgt := 107) hx hb dX12_say_65 (by decide) h9a h9b (fun c_1 => ?_) (fun c_1 => ?_)
    · have hw := hw.1 c_1
      subst hQQ
      subst hAe
      exact W.vret hx hb hr (fun t ht hW => ⟨⟨(0, z, A), rfl, hw, by rw [ht]; exact hP, va_K.moved hW.alike hK, hD⟩, hS.F ht⟩) hS.2.2 dX12_say_107
    · have hw := hw.2 c_1
      refine lv_aload_n hx hb dX12_say_68 rfl (lv_at hl 0 rfl) ?_
      refine mw_get (v := .ref (R 56)) hx hb hts hin12 hown hK hP 56 (by decide) (hts (.fieldLink RX12 220 "HiddenMovesModel" "printed" "[I") (List.mem_cons_of_mem _ (List.mem_append_left _ (List.mem_append_left _ (List.mem_of_getElem? (i := 1) rfl))))) (fun _ h9 => h9) rfl dX12_say_69 ?_
      refine lv_iload_n hx hb dX12_say_72 rfl (lv_at hl 1 rfl) ?_
      obtain ⟨h9i, hw⟩ := hw
      refine mw_ild (k := 56) (n := 2000) (i := x3) hx hb hK hP 43 42 rfl rfl h9i (by decide) dX12_say_73 ?_
      refine hz_topi (fun x5_2 hx5_2 => ?_)
      have hw := hw x5_2 hx5_2
      refine lv_istore (lv' := [(5, .int (hz_i x5_2)), (0, .ref om), (3, .int (hz_i x3)), (4, .int (hz_i x4))]) hx hb dX12_say_74 hl (by decide) rfl (fun ls hl => ?_)
      refine lv_aload_n hx hb dX12_say_76 rfl (lv_at hl 1 rfl) ?_
      refine mw_get (v := .ref (R 56)) hx hb hts hin12 hown hK hP 56 (by decide) (hts (.fieldLink RX12 220 "HiddenMovesModel" "printed" "[I") (List.mem_cons_of_mem _ (List.mem_append_left _ (List.mem_append_left _ (List.mem_of_getElem? (i := 1) rfl))))) (fun _ h9 => h9) rfl dX12_say_77 ?_
      refine lv_iload_n hx hb dX12_say_80 rfl (lv_at hl 2 rfl) ?_
      refine lv_aload_n hx hb dX12_say_81 rfl (lv_at hl 1 rfl) ?_
      refine mw_get (v := .ref (R 56)) hx hb hts hin12 hown hK hP 56 (by decide) (hts (.fieldLink RX12 220 "HiddenMovesModel" "printed" "[I") (List.mem_cons_of_mem _ (List.mem_append_left _ (List.mem_append_left _ (List.mem_of_getElem? (i := 1) rfl))))) (fun _ h9 => h9) rfl dX12_say_82 ?_
      refine lv_iload hx hb dX12_say_85 (lv_at hl 3 rfl) ?_
      obtain ⟨h9i, hw⟩ := hw
      refine mw_ild (k := 56) (n := 2000) (i := x4) hx hb hK hP 43 42 rfl rfl h9i (by decide) dX12_say_87 ?_
      obtain ⟨h9i, hw⟩ := hw
      refine mw_ist (k := 56) (n := 2000) (i := x3) (v := A 56 (x4.toNat)) hx hb hK hP hD hS 43 42 rfl rfl (mw_a56 om R C z A) h9i (by decide) dX12_say_88 (fun H locs hP hD hS => ?_)
      obtain ⟨A_3, hA_3⟩ : ∃ y : Nat → Nat → Int, y = hz_s A 56 x3 (A 56 (x4.toNat)) := ⟨_, rfl⟩
      rw [← hA_3] at hP hD
      have hw := hw A_3 hA_3
      refine lv_aload_n hx hb dX12_say_89 rfl (lv_at hl 1 rfl) ?_
      refine mw_get (v := .ref (R 56)) hx hb hts hin12 hown hK hP 56 (by decide) (hts (.fieldLink RX12 220 "HiddenMovesModel" "printed" "[I") (List.mem_cons_of_mem _ (List.mem_append_left _ (List.mem_append_left _ (List.mem_of_getElem? (i := 1) rfl))))) (fun _ h9 => h9) rfl dX12_say_90 ?_
      refine lv_iload hx hb dX12_say_93 (lv_at hl 3 rfl) ?_
      refine lv_iload hx hb dX12_say_95 (lv_at hl 0 rfl) ?_
      obtain ⟨h9i, hw⟩ := hw
      refine mw_ist (k := 56) (n := 2000) (i := x4) (v := x5_2) hx hb hK hP hD hS 43 42 rfl rfl (mw_a56 om R C z A_3) h9i (by decide) dX12_say_97 (fun H locs hP hD hS => ?_)
      obtain ⟨A_4, hA_4⟩ : ∃ y : Nat → Nat → Int, y = hz_s A_3 56 x4 x5_2 := ⟨_, rfl⟩
      rw [← hA_4] at hP hD
      have hw := hw A_4 hA_4
      obtain ⟨x3_5, hx3_5⟩ : ∃ y : Int, y = x3 + 1 := ⟨_, rfl⟩
      have hw := hw x3_5 hx3_5
      refine lv_iinc (v := hz_i x3_5) (lv' := [(3, .int (hz_i x3_5)), (5, .int (hz_i x5_2)), (0, .ref om), (4, .int (hz_i x4))]) hx hb dX12_say_98 hl (k := 2) rfl (by rw [hx3_5]; exact hz_i_add _ _) (by decide) rfl (fun ls hl => ?_)
      obtain ⟨x4_6, hx4_6⟩ : ∃ y : Int, y = x4 + (-1) := ⟨_, rfl⟩
      have hw := hw x4_6 hx4_6
      refine lv_iinc (v := hz_i x4_6) (lv' := [(4, .int (hz_i x4_6)), (3, .int (hz_i x3_5)), (5, .int (hz_i x5_2)), (0, .ref om)]) hx hb dX12_say_101 hl (k := 3) rfl (by rw [hx4_6]; exact hz_i_add _ _) (by decide) rfl (fun ls hl => ?_)
      refine lv_goto (tgt := 62) hx hb dX12_say_104 (by decide) ?_
      exact (hP62 A_4 x3_5 x4_6).mp hw H locs ls hP hD hS (lv_sub hl [3, 1, 0] rfl)
  have L13 : ∀ (z : Nat → Int) (A : Nat → Nat → Int) (x2 : Int), wp_say_13 z A x2  Q → ∀ (H : Heap) (locs : List Loc) (ls : Array Slot), va_P D vwCl (mw_w om R C z A) H → va_D Ad (mw_w om R C z A) → va_S Ad s.heap H locs → lv_has ls 6 [(0, .ref om), (2, .int (hz_i x2))] → W p l e (headSpec wsX12_say ({ frames := 3, cells := 0, slots := 0, locals := 65 } : Room)).room s m (List.toArray [.ref om, .int (hz_i y1)]) below meth c H locs 0 0 QQ (F0 m 13 ls []) := by
    intro z A x2 hw
    obtain ⟨P13, hP13⟩ : ∃ P : (Nat → Int) → (Nat → Nat → Int) → Prop, ∀ (z : Nat → Int) (A : Nat → Nat → Int), P z A ↔ (∀ (H : Heap) (locs : List Loc) (ls : Array Slot), va_P D vwCl (mw_w om R C z A) H → va_D Ad (mw_w om R C z A) → va_S Ad s.heap H locs → lv_has ls 6 [(0, .ref om), (2, .int (hz_i x2))] → W p l e (headSpec wsX12_say ({ frames := 3, cells := 0, slots := 0, locals := 65 } : Room)).room s m (List.toArray [.ref om, .int (hz_i y1)]) below meth c H locs 0 0 QQ (F0 m 13 ls [])) := ⟨fun (z : Nat → Int) (A : Nat → Nat → Int) => ∀ (H : Heap) (locs : List Loc) (ls : Array Slot), va_P D vwCl (mw_w om R C z A) H → va_D Ad (mw_w om R C z A) → va_S Ad s.heap H locs → lv_has ls 6 [(0, .ref om), (2, .int (hz_i x2))] → W p l e (headSpec wsX12_say ({ frames := 3, cells := 0, slots := 0, locals := 65 } : Room)).room s m (List.toArray [.ref om, .int (hz_i y1)]) below meth c H locs 0 0 QQ (F0 m 13 ls []), fun _ _ => Iff.rfl⟩
    refine (hP13 z A).mp (hw P13 ?_)
    intro z A hw
    refine (hP13 z A).mpr ?_
    intro H locs ls hP hD hS hl
    refine lv_aload_n hx hb dX12_say_13 rfl (lv_at hl 0 rfl) ?_
    refine mw_get (v := .ref (R 56)) hx hb hts hin12 hown hK hP 56 (by decide) (hts (.fieldLink RX12 220 "HiddenMovesModel" "printed" "[I") (List.mem_cons_of_mem _ (List.mem_append_left _ (List.mem_append_left _ (List.mem_of_getElem? (i := 1) rfl))))) (fun _ h9 => h9) rfl dX12_say_14 ?_
    refine lv_aload_n hx hb dX12_say_17 rfl (lv_at hl 0 rfl) ?_
    refine mw_get (v := .int (hz_i (z 57))) hx hb hts hin12 hown hK hP 57 (by decide) (hts (.fieldLink RX12 410 "HiddenMovesModel" "printedSize" "I") (List.mem_cons_of_mem _ (List.mem_append_left _ (List.mem_append_left _ (List.mem_of_getElem? (i := 0) rfl))))) (fun _ h9 => h9) rfl dX12_say_18 ?_
    refine lv_bipush (v := hz_i 48) hx hb dX12_say_21 (by decide +kernel) ?_
    refine lv_aload_n hx hb dX12_say_23 rfl (lv_at hl 0 rfl) ?_
    refine lv_sipush (v := hz_i 4228) hx hb dX12_say_24 (by decide +kernel) ?_
    have hFc := mw_free hD hS hA
    refine va_calli (va_runV (As := [.int (hz_i 4228)]) (rest := [.int (hz_i 48), .int (hz_i (z 57)), .ref (R 56)]) ⟨hx, hb, hml, hown, hts⟩ (k_bigTenth l D _ om R C z A 4228 _ hw) (cwV 1 hts gX12_say_X12_bigTenth rfl rfl rfl (by decide +kernel) ⟨Nat.le_of_ble_eq_true rfl, Nat.le_of_ble_eq_true rfl⟩) ⟨hm_blind, va_recv hK hP (ci := 12) (q0 := 0) rfl rfl, hm_pre hP hK hD hE⟩ rfl rfl hl.1 rfl (lv_room (Nat.le_of_ble_eq_true rfl)) dX12_say_27 ⟨Nat.le_of_ble_eq_true rfl, Nat.le_of_ble_eq_true rfl⟩) hS (fun q _ h => hFc q h) hFc (fun rv u t H1 locs ht hvm hw hB hz1 hk1 hS => ?_)
    obtain ⟨r_7, _, A_8⟩ := u
    obtain ⟨hP, hK1, hD1⟩ := hB
    rw [ht] at hP
    obtain ⟨hrv, hw⟩ := hw
    subst hrv
    have hD := hD1.weaken (fun k q _ h => hFc q.1 h)
    have hP : va_P D vwCl (mw_w om R C z A_8) H1 := hP
    have hD : va_D Ad (mw_w om R C z A_8) := hD
    generalize H1 = H at hP hS ⊢
    refine W.eq (g2 := F0 m 30 ls [.int (hz_i r_7), .int (hz_i 48), .int (hz_i (z 57)), .ref (R 56)]) rfl ?_
    refine hz_iadd hx hb dX12_say_30 ?_
    obtain ⟨h9i, hw⟩ := hw
    refine mw_ist (k := 56) (n := 2000) (i := z 57) (v := 48 + r_7) hx hb hK hP hD hS 43 42 rfl rfl (mw_a56 om R C z A_8) h9i (by decide) dX12_say_31 (fun H locs hP hD hS => ?_)
    obtain ⟨A_9, hA_9⟩ : ∃ y : Nat → Nat → Int, y = hz_s A_8 56 (z 57) (48 + r_7) := ⟨_, rfl⟩
    rw [← hA_9] at hP hD
    have hw := hw A_9 hA_9
    refine lv_aload_n hx hb dX12_say_32 rfl (lv_at hl 0 rfl) ?_
    refine lv_dup hx hb dX12_say_33 rfl ?_
    refine mw_get (v := .int (hz_i (z 57))) hx hb hts hin12 hown hK hP 57 (by decide) (hts (.fieldLink RX12 410 "HiddenMovesModel" "printedSize" "I") (List.mem_cons_of_mem _ (List.mem_append_left _ (List.mem_append_left _ (List.mem_of_getElem? (i := 0) rfl))))) (fun _ h9 => h9) rfl dX12_say_34 ?_
    refine lv_iconst (v := hz_i 1) hx hb dX12_say_37 (by decide +kernel) ?_
    refine hz_iadd hx hb dX12_say_38 ?_
    refine mw_put (ty := .int) (v := .int (hz_i ((z 57) + 1))) hx hb hts hin12 hown hK hP hD hS 57 (by decide) (hts (.fieldLink RX12 410 "HiddenMovesModel" "printedSize" "I") (List.mem_cons_of_mem _ (List.mem_append_left _ (List.mem_append_left _ (List.mem_of_getElem? (i := 0) rfl))))) (fun _ h9 => h9) rfl (by decide +kernel) rfl rfl (mw_s57 R z ((z 57) + 1)) dX12_say_39 (fun H locs hP hD hS => ?_)
    obtain ⟨z_10, hz_10⟩ : ∃ y : Nat → Int, y = lp_U z 57 ((z 57) + 1) := ⟨_, rfl⟩
    rw [← hz_10] at hP hD
    have hw := hw z_10 hz_10
    refine lv_aload_n hx hb dX12_say_42 rfl (lv_at hl 0 rfl) ?_
    refine lv_sipush (v := hz_i 4228) hx hb dX12_say_43 (by decide +kernel) ?_
    have hFc := mw_free hD hS hA
    refine va_calli (va_runV (As := [.int (hz_i 4228)]) (rest := []) ⟨hx, hb, hml, hown, hts⟩ (k_bigIsZero l D _ om R C z_10 A_9 4228 _ hw) (cwV 1 hts gX12_say_X12_bigIsZero rfl rfl rfl (by decide +kernel) ⟨Nat.le_of_ble_eq_true rfl, Nat.le_of_ble_eq_true rfl⟩) ⟨hm_blind, va_recv hK hP (ci := 12) (q0 := 0) rfl rfl, hm_pre hP hK hD hE⟩ rfl rfl hl.1 rfl (lv_room (Nat.le_of_ble_eq_true rfl)) dX12_say_46 ⟨Nat.le_of_ble_eq_true rfl, Nat.le_of_ble_eq_true rfl⟩) hS (fun q _ h => hFc q h) hFc (fun rv u t H1 locs ht hvm hw hB hz1 hk1 hS => ?_)
    obtain ⟨r_11, _, _⟩ := u
    obtain ⟨hP, hK1, hD1⟩ := hB
    rw [ht] at hP
    obtain ⟨hrv, hw⟩ := hw
    subst hrv
    have hD := hD1.weaken (fun k q _ h => hFc q.1 h)
    have hP : va_P D vwCl (mw_w om R C z_10 A_9) H1 := hP
    have hD : va_D Ad (mw_w om R C z_10 A_9) := hD
    generalize H1 = H at hP hS ⊢
    refine W.eq (g2 := F0 m 49 ls [.int (hz_i r_11)]) rfl ?_
    obtain ⟨h9a, hw⟩ := hw
    refine hz_if_eq (tgt := 13) hx hb dX12_say_49 (by decide) h9a (fun c_12 => ?_) (fun c_12 => ?_)
    · have hw := hw.1 c_12
      exact (hP13 z_10 A_9).mp hw H locs ls hP hD hS (lv_sub hl [0, 1] rfl)
    · have hw := hw.2 c_12
      refine lv_iload_n hx hb dX12_say_52 rfl (lv_at hl 1 rfl) ?_
      refine lv_istore_n (lv' := [(3, .int (hz_i x2)), (0, .ref om), (2, .int (hz_i x2))]) hx hb dX12_say_53 rfl hl (by decide) rfl (fun ls hl => ?_)
      refine lv_aload_n hx hb dX12_say_54 rfl (lv_at hl 1 rfl) ?_
      refine mw_get (v := .int (hz_i (z_10 57))) hx hb hts hin12 hown hK hP 57 (by decide) (hts (.fieldLink RX12 410 "HiddenMovesModel" "printedSize" "I") (List.mem_cons_of_mem _ (List.mem_append_left _ (List.mem_append_left _ (List.mem_of_getElem? (i := 0) rfl))))) (fun _ h9 => h9) rfl dX12_say_55 ?_
      refine lv_iconst (v := hz_i 1) hx hb dX12_say_58 (by decide +kernel) ?_
      refine hz_isub hx hb dX12_say_59 ?_
      refine hz_topi (fun x4_13 hx4_13 => ?_)
      have hw := hw x4_13 hx4_13
      refine lv_istore (lv' := [(4, .int (hz_i x4_13)), (3, .int (hz_i x2)), (0, .ref om), (2, .int (hz_i x2))]) hx hb dX12_say_60 hl (by decide) rfl (fun ls hl => ?_)
      exact L62 z_10 A_9 x2 x4_13 hw H locs ls hP hD hS (lv_sub hl [2, 1, 0] rfl)
  have hP := hP0; have hD := hD0; have hS := hS0; have hl := hl0; have hw := hw0
  obtain ⟨H, hH⟩ : ∃ H : Heap, H = s.heap := ⟨_, rfl⟩
  obtain ⟨locs, hlocs⟩ : ∃ L : List Loc, L = [] := ⟨_, rfl⟩
  rw [← hH] at hP
  have hS : va_S Ad s.heap H locs := by rw [hH, hlocs]; exact hS
  refine mw_HL hH hlocs ?_
  refine lv_aload_n hx hb dX12_say_0 rfl (lv_at hl 0 rfl) ?_
  refine lv_sipush (v := hz_i 4228) hx hb dX12_say_1 (by decide +kernel) ?_
  refine lv_iload_n hx hb dX12_say_4 rfl (lv_at hl 1 rfl) ?_
  have hFc := mw_free hD hS hA
  refine va_callv (va_runV (As := [.int (hz_i 4228), .int (hz_i y1)]) (rest := []) ⟨hx, hb, hml, hown, hts⟩ (k_bigCopy l D _ om R C z A 4228 y1 _ hw) (cwV 2 hts gX12_say_X12_bigCopy rfl rfl rfl (by decide +kernel) ⟨Nat.le_of_ble_eq_true rfl, Nat.le_of_ble_eq_true rfl⟩) ⟨hm_blind, va_recv hK hP (ci := 12) (q0 := 0) rfl rfl, hm_pre hP hK hD hE⟩ rfl rfl hl.1 rfl (lv_room (Nat.le_of_ble_eq_true rfl)) dX12_say_5 ⟨Nat.le_of_ble_eq_true rfl, Nat.le_of_ble_eq_true rfl⟩) hS (fun q _ h => hFc q h) hFc (fun u t H1 locs ht hvm hw hB hz1 hk1 hS => ?_)
  obtain ⟨r_14, _, A_15⟩ := u
  obtain ⟨hP, hK1, hD1⟩ := hB
  rw [ht] at hP
  have hD := hD1.weaken (fun k q _ h => hFc q.1 h)
  have hP : va_P D vwCl (mw_w om R C z A_15) H1 := hP
  have hD : va_D Ad (mw_w om R C z A_15) := hD
  generalize H1 = H at hP hS ⊢
  refine W.eq (g2 := F0 m 8 ls []) rfl ?_
  refine lv_aload_n hx hb dX12_say_8 rfl (lv_at hl 0 rfl) ?_
  refine mw_get (v := .int (hz_i (z 57))) hx hb hts hin12 hown hK hP 57 (by decide) (hts (.fieldLink RX12 410 "HiddenMovesModel" "printedSize" "I") (List.mem_cons_of_mem _ (List.mem_append_left _ (List.mem_append_left _ (List.mem_of_getElem? (i := 0) rfl))))) (fun _ h9 => h9) rfl dX12_say_9 ?_
  refine hz_topi (fun x2_16 hx2_16 => ?_)
  have hw := hw x2_16 hx2_16
  refine lv_istore_n (lv' := [(2, .int (hz_i x2_16)), (0, .ref om), (1, .int (hz_i y1))]) hx hb dX12_say_12 rfl hl (by decide) rfl (fun ls hl => ?_)
  exact L13 z A_15 x2_16 hw H locs ls hP hD hS (lv_sub hl [1, 0] rfl)

noncomputable def wp_print_92 (z : Nat → Int) (A : Nat → Nat → Int) (Q : Int → (Nat → Int) → (Nat → Nat → Int) → Prop) : Prop := Q (z 57) z A
noncomputable def wp_print_49 (z : Nat → Int) (A : Nat → Nat → Int) (x2 : Int) (Q : Int → (Nat → Int) → (Nat → Nat → Int) → Prop) : Prop := wp_say z A x2 (fun z_2 A_3 => wp_bigIsOne z_2 A_3 (x2 + 1) (fun r_4 => hz_rI r_4 ∧ ((¬ r_4 = 0 → wp_print_92 z_2 A_3  Q) ∧ (r_4 = 0 → (0 ≤ z_2 57 ∧ z_2 57 < 2000) ∧ ∀ A_6 : Nat → Nat → Int, A_6 = hz_s A_3 56 (z_2 57) 47 → ∀ z_7 : Nat → Int, z_7 = lp_U z_2 57 ((z_2 57) + 1) → wp_say z_7 A_6 (x2 + 1) (fun z_9 A_10 => wp_print_92 z_9 A_10  Q)))))
noncomputable def wp_print (z : Nat → Int) (A : Nat → Nat → Int) (y1 : Int) (Q : Int → (Nat → Int) → (Nat → Nat → Int) → Prop) : Prop := ∀ z_11 : Nat → Int, z_11 = lp_U z 3 0 → wp_has z_11 A y1 (fun r_12 => hz_rI r_12 ∧ ((¬ r_12 = 0 → ∀ x2_14 : Int, x2_14 = 4231 + (2 * y1) → ∀ z_15 : Nat → Int, z_15 = lp_U z_11 57 0 → wp_bigSign z_15 A x2_14 (fun r_16 => hz_rI r_16 ∧ ((0 ≤ r_16 → wp_print_49 z_15 A x2_14  Q) ∧ (¬ (0 ≤ r_16) → ∀ A_18 : Nat → Nat → Int, A_18 = hz_s A 56 0 45 → ∀ z_19 : Nat → Int, z_19 = lp_U z_15 57 1 → wp_print_49 z_19 A_18 x2_14  Q)))) ∧ (r_12 = 0 → Q (-1) z_11 A)))
set_option maxHeartbeats 4000000 in
set_option maxRecDepth 100000 in
theorem k_print (l : Launch) (D : va_G) (sz : Nat) (om : Nat) (R : Nat → Nat) (C : Nat → ClassId) (z : Nat → Int) (A : Nat → Nat → Int) (y1 : Int) (Q : Int → (Nat → Int) → (Nat → Nat → Int) → Prop) (hw : wp_print z A y1 Q) : Met l yX12_print wsX12_print ({ frames := 4, cells := 0, slots := 0, locals := 90 } : Room) (va_Pc [.ref om, .int (hz_i y1)] (hm_P D (mw_w om R C z A) (mw_t C) sz)) (va_Qi (S := Int × (Nat → Int) × (Nat → Nat → Int)) (fun r u => r = hz_i u.1 ∧ Q u.1 u.2.1 u.2.2) (fun u t => hm_B D (va_A (mw_w om R C z A) sz) (mw_w om R C u.2.1 u.2.2) (mw_t C) t) (va_A (mw_w om R C z A) sz)) 0 0 (va_A (mw_w om R C z A) sz) := by
  refine Met.ofW (cc := cX12_print) (maxL := 3) (ret := (some .int)) (by decide) rfl ?_
  intro p e s m args below meth c s₁ B hml hv
  obtain ⟨rfl, hsz, hP, hK, hD0, hE⟩ := hv
  have hx := B.exec
  have hb := B.bytes
  have hr := B.returns
  have hts := atoms_spec (ws := wsX12_print) B.pre
  have hown : s.vm.findClass RX12 = some m.cls := findClass_of_methodNamed B.named
  have hlocks := B.notSynchronized
  have hin12 : ∀ w ∈ u_ws RX12 TX12 58, w ∈ wsX12_print := fun w h => List.mem_cons_of_mem _ (List.mem_append_right _ (h))
  subst hsz
  have hD := hD0.self (sz := s.heap.size)
  generalize hAe : va_A (mw_w om R C z A) s.heap.size = Ad at hD ⊢
  have hA : ∀ q : Nat, s.heap.size ≤ q → Ad q := fun q h => by rw [← hAe]; exact Or.inr h
  have hS : va_S Ad s.heap s.heap [] := va_S.rf
  have hl := lv_entry ([.ref om, .int (hz_i y1)]) (n := 3) (Nat.le_of_ble_eq_true rfl)
  rw [lg_entry_eq]
  generalize (lg_sl ([.ref om, .int (hz_i y1)]) ++ List.replicate (3 - (lg_sl ([.ref om, .int (hz_i y1)])).length) Slot.unset).toArray = ls at hl ⊢
  have hl : lv_has ls 3 [(0, .ref om), (1, .int (hz_i y1))] := hl
  refine mw_Q (fun QQ hQQ => ?_)
  have hP0 := hP; have hD0 := hD; have hS0 := hS; have hl0 := hl; have hw0 := hw
  clear hP hD hS hl hw
  have L92 : ∀ (z : Nat → Int) (A : Nat → Nat → Int), wp_print_92 z A  Q → ∀ (H : Heap) (locs : List Loc) (ls : Array Slot), va_P D vwCl (mw_w om R C z A) H → va_D Ad (mw_w om R C z A) → va_S Ad s.heap H locs → lv_has ls 3 [(0, .ref om)] → W p l e (headSpec wsX12_print ({ frames := 4, cells := 0, slots := 0, locals := 90 } : Room)).room s m (List.toArray [.ref om, .int (hz_i y1)]) below meth c H locs 0 0 QQ (F0 m 92 ls []) := by
    intro z A hw H locs ls hP hD hS hl
    refine lv_aload_n hx hb dX12_print_92 rfl (lv_at hl 0 rfl) ?_
    refine mw_get (v := .int (hz_i (z 57))) hx hb hts hin12 hown hK hP 57 (by decide) (hts (.fieldLink RX12 410 "HiddenMovesModel" "printedSize" "I") (List.mem_cons_of_mem _ (List.mem_append_left _ (List.mem_append_left _ (List.mem_of_getElem? (i := 1) rfl))))) (fun _ h9 => h9) rfl dX12_print_93 ?_
    subst hQQ
    subst hAe
    exact W.iret (v := hz_i (z 57)) hx hb hr (fun t ht hW => ⟨⟨hz_i (z 57), (z 57, z, A), rfl, ⟨rfl, hw⟩, by rw [ht]; exact hP, va_K.moved hW.alike hK, hD⟩, hS.F ht⟩) hS.2.2 dX12_print_96
  have L49 : ∀ (z : Nat → Int) (A : Nat → Nat → Int) (x2 : Int), wp_print_49 z A x2  Q → ∀ (H : Heap) (locs : List Loc) (ls : Array Slot), va_P D vwCl (mw_w om R C z A) H → va_D Ad (mw_w om R C z A) → va_S Ad s.heap H locs → lv_has ls 3 [(0, .ref om), (2, .int (hz_i x2))] → W p l e (headSpec wsX12_print ({ frames := 4, cells := 0, slots := 0, locals := 90 } : Room)).room s m (List.toArray [.ref om, .int (hz_i y1)]) below meth c H locs 0 0 QQ (F0 m 49 ls []) := by
    intro z A x2 hw H locs ls hP hD hS hl
    refine lv_aload_n hx hb dX12_print_49 rfl (lv_at hl 0 rfl) ?_
    refine lv_iload_n hx hb dX12_print_50 rfl (lv_at hl 1 rfl) ?_
    have hFc := mw_free hD hS hA
    refine va_callv (va_runV (As := [.int (hz_i x2)]) (rest := []) ⟨hx, hb, hml, hown, hts⟩ (k_say l D _ om R C z A x2 _ hw) (cwV 1 hts gX12_print_X12_say rfl rfl rfl (by decide +kernel) ⟨Nat.le_of_ble_eq_true rfl, Nat.le_of_ble_eq_true rfl⟩) ⟨hm_blind, va_recv hK hP (ci := 12) (q0 := 0) rfl rfl, hm_pre hP hK hD hE⟩ rfl rfl hl.1 rfl (lv_room (Nat.le_of_ble_eq_true rfl)) dX12_print_51 ⟨Nat.le_of_ble_eq_true rfl, Nat.le_of_ble_eq_true rfl⟩) hS (fun q _ h => hFc q h) hFc (fun u t H1 locs ht hvm hw hB hz1 hk1 hS => ?_)
    obtain ⟨r_1, z_2, A_3⟩ := u
    obtain ⟨hP, hK1, hD1⟩ := hB
    rw [ht] at hP
    have hD := hD1.weaken (fun k q _ h => hFc q.1 h)
    have hP : va_P D vwCl (mw_w om R C z_2 A_3) H1 := hP
    have hD : va_D Ad (mw_w om R C z_2 A_3) := hD
    generalize H1 = H at hP hS ⊢
    refine W.eq (g2 := F0 m 54 ls []) rfl ?_
    refine lv_aload_n hx hb dX12_print_54 rfl (lv_at hl 0 rfl) ?_
    refine lv_iload_n hx hb dX12_print_55 rfl (lv_at hl 1 rfl) ?_
    refine lv_iconst (v := hz_i 1) hx hb dX12_print_56 (by decide +kernel) ?_
    refine hz_iadd hx hb dX12_print_57 ?_
    have hFc := mw_free hD hS hA
    refine va_calli (va_runV (As := [.int (hz_i (x2 + 1))]) (rest := []) ⟨hx, hb, hml, hown, hts⟩ (k_bigIsOne l D _ om R C z_2 A_3 (x2 + 1) _ hw) (cwV 1 hts gX12_print_X12_bigIsOne rfl rfl rfl (by decide +kernel) ⟨Nat.le_of_ble_eq_true rfl, Nat.le_of_ble_eq_true rfl⟩) ⟨hm_blind, va_recv hK hP (ci := 12) (q0 := 0) rfl rfl, hm_pre hP hK hD hE⟩ rfl rfl hl.1 rfl (lv_room (Nat.le_of_ble_eq_true rfl)) dX12_print_58 ⟨Nat.le_of_ble_eq_true rfl, Nat.le_of_ble_eq_true rfl⟩) hS (fun q _ h => hFc q h) hFc (fun rv u t H1 locs ht hvm hw hB hz1 hk1 hS => ?_)
    obtain ⟨r_4, _, _⟩ := u
    obtain ⟨hP, hK1, hD1⟩ := hB
    rw [ht] at hP
    obtain ⟨hrv, hw⟩ := hw
    subst hrv
    have hD := hD1.weaken (fun k q _ h => hFc q.1 h)
    have hP : va_P D vwCl (mw_w om R C z_2 A_3) H1 := hP
    have hD : va_D Ad (mw_w om R C z_2 A_3) := hD
    generalize H1 = H at hP hS ⊢
    refine W.eq (g2 := F0 m 61 ls [.int (hz_i r_4)]) rfl ?_
    obtain ⟨h9a, hw⟩ := hw
    refine hz_if_ne (tgt := 92) hx hb dX12_print_61 (by decide) h9a (fun c_5 => ?_) (fun c_5 => ?_)
    · have hw := hw.1 c_5
      exact L92 z_2 A_3 hw H locs ls hP hD hS (lv_sub hl [0] rfl)
    · have hw := hw.2 c_5
      refine lv_aload_n hx hb dX12_print_64 rfl (lv_at hl 0 rfl) ?_
      refine mw_get (v := .ref (R 56)) hx hb hts hin12 hown hK hP 56 (by decide) (hts (.fieldLink RX12 220 "HiddenMovesModel" "printed" "[I") (List.mem_cons_of_mem _ (List.mem_append_left _ (List.mem_append_left _ (List.mem_of_getElem? (i := 2) rfl))))) (fun _ h9 => h9) rfl dX12_print_65 ?_
      refine lv_aload_n hx hb dX12_print_68 rfl (lv_at hl 0 rfl) ?_
      refine mw_get (v := .int (hz_i (z_2 57))) hx hb hts hin12 hown hK hP 57 (by decide) (hts (.fieldLink RX12 410 "HiddenMovesModel" "printedSize" "I") (List.mem_cons_of_mem _ (List.mem_append_left _ (List.mem_append_left _ (List.mem_of_getElem? (i := 1) rfl))))) (fun _ h9 => h9) rfl dX12_print_69 ?_
      refine lv_bipush (v := hz_i 47) hx hb dX12_print_72 (by decide +kernel) ?_
      obtain ⟨h9i, hw⟩ := hw
      refine mw_ist (k := 56) (n := 2000) (i := z_2 57) (v := 47) hx hb hK hP hD hS 43 42 rfl rfl (mw_a56 om R C z_2 A_3) h9i (by decide) dX12_print_74 (fun H locs hP hD hS => ?_)
      obtain ⟨A_6, hA_6⟩ : ∃ y : Nat → Nat → Int, y = hz_s A_3 56 (z_2 57) 47 := ⟨_, rfl⟩
      rw [← hA_6] at hP hD
      have hw := hw A_6 hA_6
      refine lv_aload_n hx hb dX12_print_75 rfl (lv_at hl 0 rfl) ?_
      refine lv_dup hx hb dX12_print_76 rfl ?_
      refine mw_get (v := .int (hz_i (z_2 57))) hx hb hts hin12 hown hK hP 57 (by decide) (hts (.fieldLink RX12 410 "HiddenMovesModel" "printedSize" "I") (List.mem_cons_of_mem _ (List.mem_append_left _ (List.mem_append_left _ (List.mem_of_getElem? (i := 1) rfl))))) (fun _ h9 => h9) rfl dX12_print_77 ?_
      refine lv_iconst (v := hz_i 1) hx hb dX12_print_80 (by decide +kernel) ?_
      refine hz_iadd hx hb dX12_print_81 ?_
      refine mw_put (ty := .int) (v := .int (hz_i ((z_2 57) + 1))) hx hb hts hin12 hown hK hP hD hS 57 (by decide) (hts (.fieldLink RX12 410 "HiddenMovesModel" "printedSize" "I") (List.mem_cons_of_mem _ (List.mem_append_left _ (List.mem_append_left _ (List.mem_of_getElem? (i := 1) rfl))))) (fun _ h9 => h9) rfl (by decide +kernel) rfl rfl (mw_s57 R z_2 ((z_2 57) + 1)) dX12_print_82 (fun H locs hP hD hS => ?_)
      obtain ⟨z_7, hz_7⟩ : ∃ y : Nat → Int, y = lp_U z_2 57 ((z_2 57) + 1) := ⟨_, rfl⟩
      rw [← hz_7] at hP hD
      have hw := hw z_7 hz_7
      refine lv_aload_n hx hb dX12_print_85 rfl (lv_at hl 0 rfl) ?_
      refine lv_iload_n hx hb dX12_print_86 rfl (lv_at hl 1 rfl) ?_
      refine lv_iconst (v := hz_i 1) hx hb dX12_print_87 (by decide +kernel) ?_
      refine hz_iadd hx hb dX12_print_88 ?_
      have hFc := mw_free hD hS hA
      refine va_callv (va_runV (As := [.int (hz_i (x2 + 1))]) (rest := []) ⟨hx, hb, hml, hown, hts⟩ (k_say l D _ om R C z_7 A_6 (x2 + 1) _ hw) (cwV 1 hts gX12_print_X12_say rfl rfl rfl (by decide +kernel) ⟨Nat.le_of_ble_eq_true rfl, Nat.le_of_ble_eq_true rfl⟩) ⟨hm_blind, va_recv hK hP (ci := 12) (q0 := 0) rfl rfl, hm_pre hP hK hD hE⟩ rfl rfl hl.1 rfl (lv_room (Nat.le_of_ble_eq_true rfl)) dX12_print_89 ⟨Nat.le_of_ble_eq_true rfl, Nat.le_of_ble_eq_true rfl⟩) hS (fun q _ h => hFc q h) hFc (fun u t H1 locs ht hvm hw hB hz1 hk1 hS => ?_)
      obtain ⟨r_8, z_9, A_10⟩ := u
      obtain ⟨hP, hK1, hD1⟩ := hB
      rw [ht] at hP
      have hD := hD1.weaken (fun k q _ h => hFc q.1 h)
      have hP : va_P D vwCl (mw_w om R C z_9 A_10) H1 := hP
      have hD : va_D Ad (mw_w om R C z_9 A_10) := hD
      generalize H1 = H at hP hS ⊢
      refine W.eq (g2 := F0 m 92 ls []) rfl ?_
      exact L92 z_9 A_10 hw H locs ls hP hD hS (lv_sub hl [0] rfl)
  have hP := hP0; have hD := hD0; have hS := hS0; have hl := hl0; have hw := hw0
  obtain ⟨H, hH⟩ : ∃ H : Heap, H = s.heap := ⟨_, rfl⟩
  obtain ⟨locs, hlocs⟩ : ∃ L : List Loc, L = [] := ⟨_, rfl⟩
  rw [← hH] at hP
  have hS : va_S Ad s.heap H locs := by rw [hH, hlocs]; exact hS
  refine mw_HL hH hlocs ?_
  refine lv_aload_n hx hb dX12_print_0 rfl (lv_at hl 0 rfl) ?_
  refine lv_iconst (v := hz_i 0) hx hb dX12_print_1 (by decide +kernel) ?_
  refine mw_put (ty := .int) (v := .int (hz_i 0)) hx hb hts hin12 hown hK hP hD hS 3 (by decide) (hts (.fieldLink RX12 223 "HiddenMovesModel" "thrown" "I") (List.mem_cons_of_mem _ (List.mem_append_left _ (List.mem_append_left _ (List.mem_of_getElem? (i := 0) rfl))))) (fun _ h9 => h9) rfl (by decide +kernel) rfl rfl (mw_s3 R z 0) dX12_print_2 (fun H locs hP hD hS => ?_)
  obtain ⟨z_11, hz_11⟩ : ∃ y : Nat → Int, y = lp_U z 3 0 := ⟨_, rfl⟩
  rw [← hz_11] at hP hD
  have hw := hw z_11 hz_11
  refine lv_aload_n hx hb dX12_print_5 rfl (lv_at hl 0 rfl) ?_
  refine lv_iload_n hx hb dX12_print_6 rfl (lv_at hl 1 rfl) ?_
  have hFc := mw_free hD hS hA
  refine va_calli (va_runV (As := [.int (hz_i y1)]) (rest := []) ⟨hx, hb, hml, hown, hts⟩ (k_has l D _ om R C z_11 A y1 _ hw) (cwV 1 hts gX12_print_X12_has rfl rfl rfl (by decide +kernel) ⟨Nat.le_of_ble_eq_true rfl, Nat.le_of_ble_eq_true rfl⟩) ⟨hm_blind, va_recv hK hP (ci := 12) (q0 := 0) rfl rfl, hm_pre hP hK hD hE⟩ rfl rfl hl.1 rfl (lv_room (Nat.le_of_ble_eq_true rfl)) dX12_print_7 ⟨Nat.le_of_ble_eq_true rfl, Nat.le_of_ble_eq_true rfl⟩) hS (fun q _ h => hFc q h) hFc (fun rv u t H1 locs ht hvm hw hB hz1 hk1 hS => ?_)
  obtain ⟨r_12, _, _⟩ := u
  obtain ⟨hP, hK1, hD1⟩ := hB
  rw [ht] at hP
  obtain ⟨hrv, hw⟩ := hw
  subst hrv
  have hD := hD1.weaken (fun k q _ h => hFc q.1 h)
  have hP : va_P D vwCl (mw_w om R C z_11 A) H1 := hP
  have hD : va_D Ad (mw_w om R C z_11 A) := hD
  generalize H1 = H at hP hS ⊢
  refine W.eq (g2 := F0 m 10 ls [.int (hz_i r_12)]) rfl ?_
  obtain ⟨h9a, hw⟩ := hw
  refine hz_if_ne (tgt := 15) hx hb dX12_print_10 (by decide) h9a (fun c_13 => ?_) (fun c_13 => ?_)
  · have hw := hw.1 c_13
    refine lv_sipush (v := hz_i 4231) hx hb dX12_print_15 (by decide +kernel) ?_
    refine lv_iconst (v := hz_i 2) hx hb dX12_print_18 (by decide +kernel) ?_
    refine lv_iload_n hx hb dX12_print_19 rfl (lv_at hl 1 rfl) ?_
    refine hz_imul hx hb dX12_print_20 ?_
    refine hz_iadd hx hb dX12_print_21 ?_
    refine hz_topi (fun x2_14 hx2_14 => ?_)
    have hw := hw x2_14 hx2_14
    refine lv_istore_n (lv' := [(2, .int (hz_i x2_14)), (0, .ref om), (1, .int (hz_i y1))]) hx hb dX12_print_22 rfl hl (by decide) rfl (fun ls hl => ?_)
    refine lv_aload_n hx hb dX12_print_23 rfl (lv_at hl 1 rfl) ?_
    refine lv_iconst (v := hz_i 0) hx hb dX12_print_24 (by decide +kernel) ?_
    refine mw_put (ty := .int) (v := .int (hz_i 0)) hx hb hts hin12 hown hK hP hD hS 57 (by decide) (hts (.fieldLink RX12 410 "HiddenMovesModel" "printedSize" "I") (List.mem_cons_of_mem _ (List.mem_append_left _ (List.mem_append_left _ (List.mem_of_getElem? (i := 1) rfl))))) (fun _ h9 => h9) rfl (by decide +kernel) rfl rfl (mw_s57 R z_11 0) dX12_print_25 (fun H locs hP hD hS => ?_)
    obtain ⟨z_15, hz_15⟩ : ∃ y : Nat → Int, y = lp_U z_11 57 0 := ⟨_, rfl⟩
    rw [← hz_15] at hP hD
    have hw := hw z_15 hz_15
    refine lv_aload_n hx hb dX12_print_28 rfl (lv_at hl 1 rfl) ?_
    refine lv_iload_n hx hb dX12_print_29 rfl (lv_at hl 0 rfl) ?_
    have hFc := mw_free hD hS hA
    refine va_calli (va_runV (As := [.int (hz_i x2_14)]) (rest := []) ⟨hx, hb, hml, hown, hts⟩ (k_bigSign l D _ om R C z_15 A x2_14 _ hw) (cwV 1 hts gX12_print_X12_bigSign rfl rfl rfl (by decide +kernel) ⟨Nat.le_of_ble_eq_true rfl, Nat.le_of_ble_eq_true rfl⟩) ⟨hm_blind, va_recv hK hP (ci := 12) (q0 := 0) rfl rfl, hm_pre hP hK hD hE⟩ rfl rfl hl.1 rfl (lv_room (Nat.le_of_ble_eq_true rfl)) dX12_print_30 ⟨Nat.le_of_ble_eq_true rfl, Nat.le_of_ble_eq_true rfl⟩) hS (fun q _ h => hFc q h) hFc (fun rv u t H1 locs ht hvm hw hB hz1 hk1 hS => ?_)
    obtain ⟨r_16, _, _⟩ := u
    obtain ⟨hP, hK1, hD1⟩ := hB
    rw [ht] at hP
    obtain ⟨hrv, hw⟩ := hw
    subst hrv
    have hD := hD1.weaken (fun k q _ h => hFc q.1 h)
    have hP : va_P D vwCl (mw_w om R C z_15 A) H1 := hP
    have hD : va_D Ad (mw_w om R C z_15 A) := hD
    generalize H1 = H at hP hS ⊢
    refine W.eq (g2 := F0 m 33 ls [.int (hz_i r_16)]) rfl ?_
    obtain ⟨h9a, hw⟩ := hw
    refine hz_if_ge (tgt := 49) hx hb dX12_print_33 (by decide) h9a (fun c_17 => ?_) (fun c_17 => ?_)
    · have hw := hw.1 c_17
      exact L49 z_15 A x2_14 hw H locs ls hP hD hS (lv_sub hl [1, 0] rfl)
    · have hw := hw.2 c_17
      refine lv_aload_n hx hb dX12_print_36 rfl (lv_at hl 1 rfl) ?_
      refine mw_get (v := .ref (R 56)) hx hb hts hin12 hown hK hP 56 (by decide) (hts (.fieldLink RX12 220 "HiddenMovesModel" "printed" "[I") (List.mem_cons_of_mem _ (List.mem_append_left _ (List.mem_append_left _ (List.mem_of_getElem? (i := 2) rfl))))) (fun _ h9 => h9) rfl dX12_print_37 ?_
      refine lv_iconst (v := hz_i 0) hx hb dX12_print_40 (by decide +kernel) ?_
      refine lv_bipush (v := hz_i 45) hx hb dX12_print_41 (by decide +kernel) ?_
      refine mw_ist (k := 56) (n := 2000) (i := 0) (v := 45) hx hb hK hP hD hS 43 42 rfl rfl (mw_a56 om R C z_15 A) (by decide) (by decide) dX12_print_43 (fun H locs hP hD hS => ?_)
      obtain ⟨A_18, hA_18⟩ : ∃ y : Nat → Nat → Int, y = hz_s A 56 0 45 := ⟨_, rfl⟩
      rw [← hA_18] at hP hD
      have hw := hw A_18 hA_18
      refine lv_aload_n hx hb dX12_print_44 rfl (lv_at hl 1 rfl) ?_
      refine lv_iconst (v := hz_i 1) hx hb dX12_print_45 (by decide +kernel) ?_
      refine mw_put (ty := .int) (v := .int (hz_i 1)) hx hb hts hin12 hown hK hP hD hS 57 (by decide) (hts (.fieldLink RX12 410 "HiddenMovesModel" "printedSize" "I") (List.mem_cons_of_mem _ (List.mem_append_left _ (List.mem_append_left _ (List.mem_of_getElem? (i := 1) rfl))))) (fun _ h9 => h9) rfl (by decide +kernel) rfl rfl (mw_s57 R z_15 1) dX12_print_46 (fun H locs hP hD hS => ?_)
      obtain ⟨z_19, hz_19⟩ : ∃ y : Nat → Int, y = lp_U z_15 57 1 := ⟨_, rfl⟩
      rw [← hz_19] at hP hD
      have hw := hw z_19 hz_19
      exact L49 z_19 A_18 x2_14 hw H locs ls hP hD hS (lv_sub hl [1, 0] rfl)
  · have hw := hw.2 c_13
    refine lv_iconst (v := hz_i (-1)) hx hb dX12_print_13 (by decide +kernel) ?_
    subst hQQ
    subst hAe
    exact W.iret (v := hz_i (-1)) hx hb hr (fun t ht hW => ⟨⟨hz_i (-1), ((-1), z_11, A), rfl, ⟨rfl, hw⟩, by rw [ht]; exact hP, va_K.moved hW.alike hK, hD⟩, hS.F ht⟩) hS.2.2 dX12_print_14

noncomputable def wp_character_27 (z : Nat → Int) (A : Nat → Nat → Int) (t0 : Int) (Q : Int → (Nat → Int) → Prop) : Prop := Q t0 z
noncomputable def wp_character_26 (z : Nat → Int) (A : Nat → Nat → Int) (Q : Int → (Nat → Int) → Prop) : Prop := wp_character_27 z A (-1)  Q
noncomputable def wp_character (z : Nat → Int) (A : Nat → Nat → Int) (y1 : Int) (Q : Int → (Nat → Int) → Prop) : Prop := ∀ z_1 : Nat → Int, z_1 = lp_U z 3 0 → hz_rI y1 ∧ ((y1 < 0 → wp_character_26 z_1 A  Q) ∧ (¬ (y1 < 0) → hz_rI y1 ∧ hz_rI (z_1 57) ∧ ((z_1 57 ≤ y1 → wp_character_26 z_1 A  Q) ∧ (¬ (z_1 57 ≤ y1) → (0 ≤ y1 ∧ y1 < 2000) ∧ wp_character_27 z_1 A (A 56 (y1.toNat))  Q))))
set_option maxHeartbeats 4000000 in
set_option maxRecDepth 100000 in
theorem k_character (l : Launch) (D : va_G) (sz : Nat) (om : Nat) (R : Nat → Nat) (C : Nat → ClassId) (z : Nat → Int) (A : Nat → Nat → Int) (y1 : Int) (Q : Int → (Nat → Int) → Prop) (hw : wp_character z A y1 Q) : Met l yX12_character wsX12_character ({ frames := 0, cells := 0, slots := 0, locals := 0 } : Room) (va_Pc [.ref om, .int (hz_i y1)] (hm_P D (mw_w om R C z A) (mw_t C) sz)) (va_Qi (S := Int × (Nat → Int) × (Nat → Nat → Int)) (fun r u => r = hz_i u.1 ∧ Q u.1 u.2.1) (fun u t => hm_B D (va_A (mw_w om R C z A) sz) (mw_w om R C u.2.1 A) (mw_t C) t) (va_A (mw_w om R C z A) sz)) 0 0 (va_A (mw_w om R C z A) sz) := by
  refine Met.ofW (cc := cX12_character) (maxL := 2) (ret := (some .int)) (by decide) rfl ?_
  intro p e s m args below meth c s₁ B hml hv
  obtain ⟨rfl, hsz, hP, hK, hD0, hE⟩ := hv
  have hx := B.exec
  have hb := B.bytes
  have hr := B.returns
  have hts := atoms_spec (ws := wsX12_character) B.pre
  have hown : s.vm.findClass RX12 = some m.cls := findClass_of_methodNamed B.named
  have hlocks := B.notSynchronized
  have hin12 : ∀ w ∈ u_ws RX12 TX12 58, w ∈ wsX12_character := fun w h => List.mem_cons_of_mem _ (List.mem_append_right _ (h))
  subst hsz
  have hD := hD0.self (sz := s.heap.size)
  generalize hAe : va_A (mw_w om R C z A) s.heap.size = Ad at hD ⊢
  have hA : ∀ q : Nat, s.heap.size ≤ q → Ad q := fun q h => by rw [← hAe]; exact Or.inr h
  have hS : va_S Ad s.heap s.heap [] := va_S.rf
  have hl := lv_entry ([.ref om, .int (hz_i y1)]) (n := 2) (Nat.le_of_ble_eq_true rfl)
  rw [lg_entry_eq]
  generalize (lg_sl ([.ref om, .int (hz_i y1)]) ++ List.replicate (2 - (lg_sl ([.ref om, .int (hz_i y1)])).length) Slot.unset).toArray = ls at hl ⊢
  have hl : lv_has ls 2 [(0, .ref om), (1, .int (hz_i y1))] := hl
  refine mw_Q (fun QQ hQQ => ?_)
  have hP0 := hP; have hD0 := hD; have hS0 := hS; have hl0 := hl; have hw0 := hw
  clear hP hD hS hl hw
  have L27 : ∀ (z : Nat → Int) (t0 : Int), wp_character_27 z A t0  Q → ∀ (H : Heap) (locs : List Loc) (ls : Array Slot), va_P D vwCl (mw_w om R C z A) H → va_D Ad (mw_w om R C z A) → va_S Ad s.heap H locs → lv_has ls 2 [(0, .ref om)] → W p l e (headSpec wsX12_character ({ frames := 0, cells := 0, slots := 0, locals := 0 } : Room)).room s m (List.toArray [.ref om, .int (hz_i y1)]) below meth c H locs 0 0 QQ (F0 m 27 ls [.int (hz_i t0)]) := by
    intro z t0 hw H locs ls hP hD hS hl
    subst hQQ
    subst hAe
    exact W.iret (v := hz_i t0) hx hb hr (fun t ht hW => ⟨⟨hz_i t0, (t0, z, A), rfl, ⟨rfl, hw⟩, by rw [ht]; exact hP, va_K.moved hW.alike hK, hD⟩, hS.F ht⟩) hS.2.2 dX12_character_27
  have L26 : ∀ (z : Nat → Int), wp_character_26 z A  Q → ∀ (H : Heap) (locs : List Loc) (ls : Array Slot), va_P D vwCl (mw_w om R C z A) H → va_D Ad (mw_w om R C z A) → va_S Ad s.heap H locs → lv_has ls 2 [(0, .ref om)] → W p l e (headSpec wsX12_character ({ frames := 0, cells := 0, slots := 0, locals := 0 } : Room)).room s m (List.toArray [.ref om, .int (hz_i y1)]) below meth c H locs 0 0 QQ (F0 m 26 ls []) := by
    intro z hw H locs ls hP hD hS hl
    refine lv_iconst (v := hz_i (-1)) hx hb dX12_character_26 (by decide +kernel) ?_
    exact L27 z (-1) hw H locs ls hP hD hS (lv_sub hl [0] rfl)
  have hP := hP0; have hD := hD0; have hS := hS0; have hl := hl0; have hw := hw0
  obtain ⟨H, hH⟩ : ∃ H : Heap, H = s.heap := ⟨_, rfl⟩
  obtain ⟨locs, hlocs⟩ : ∃ L : List Loc, L = [] := ⟨_, rfl⟩
  rw [← hH] at hP
  have hS : va_S Ad s.heap H locs := by rw [hH, hlocs]; exact hS
  refine mw_HL hH hlocs ?_
  refine lv_aload_n hx hb dX12_character_0 rfl (lv_at hl 0 rfl) ?_
  refine lv_iconst (v := hz_i 0) hx hb dX12_character_1 (by decide +kernel) ?_
  refine mw_put (ty := .int) (v := .int (hz_i 0)) hx hb hts hin12 hown hK hP hD hS 3 (by decide) (hts (.fieldLink RX12 223 "HiddenMovesModel" "thrown" "I") (List.mem_cons_of_mem _ (List.mem_append_left _ (List.mem_of_getElem? (i := 0) rfl)))) (fun _ h9 => h9) rfl (by decide +kernel) rfl rfl (mw_s3 R z 0) dX12_character_2 (fun H locs hP hD hS => ?_)
  obtain ⟨z_1, hz_1⟩ : ∃ y : Nat → Int, y = lp_U z 3 0 := ⟨_, rfl⟩
  rw [← hz_1] at hP hD
  have hw := hw z_1 hz_1
  refine lv_iload_n hx hb dX12_character_5 rfl (lv_at hl 1 rfl) ?_
  obtain ⟨h9a, hw⟩ := hw
  refine hz_if_lt (tgt := 26) hx hb dX12_character_6 (by decide) h9a (fun c_2 => ?_) (fun c_2 => ?_)
  · have hw := hw.1 c_2
    exact L26 z_1 hw H locs ls hP hD hS (lv_sub hl [0] rfl)
  · have hw := hw.2 c_2
    refine lv_iload_n hx hb dX12_character_9 rfl (lv_at hl 1 rfl) ?_
    refine lv_aload_n hx hb dX12_character_10 rfl (lv_at hl 0 rfl) ?_
    refine mw_get (v := .int (hz_i (z_1 57))) hx hb hts hin12 hown hK hP 57 (by decide) (hts (.fieldLink RX12 410 "HiddenMovesModel" "printedSize" "I") (List.mem_cons_of_mem _ (List.mem_append_left _ (List.mem_of_getElem? (i := 1) rfl)))) (fun _ h9 => h9) rfl dX12_character_11 ?_
    obtain ⟨h9a, hw⟩ := hw
    obtain ⟨h9b, hw⟩ := hw
    refine hz_icmp_ge (tgt := 26) hx hb dX12_character_14 (by decide) h9a h9b (fun c_3 => ?_) (fun c_3 => ?_)
    · have hw := hw.1 c_3
      exact L26 z_1 hw H locs ls hP hD hS (lv_sub hl [0] rfl)
    · have hw := hw.2 c_3
      refine lv_aload_n hx hb dX12_character_17 rfl (lv_at hl 0 rfl) ?_
      refine mw_get (v := .ref (R 56)) hx hb hts hin12 hown hK hP 56 (by decide) (hts (.fieldLink RX12 220 "HiddenMovesModel" "printed" "[I") (List.mem_cons_of_mem _ (List.mem_append_left _ (List.mem_of_getElem? (i := 2) rfl)))) (fun _ h9 => h9) rfl dX12_character_18 ?_
      refine lv_iload_n hx hb dX12_character_21 rfl (lv_at hl 1 rfl) ?_
      obtain ⟨h9i, hw⟩ := hw
      refine mw_ild (k := 56) (n := 2000) (i := y1) hx hb hK hP 43 42 rfl rfl h9i (by decide) dX12_character_22 ?_
      refine lv_goto (tgt := 27) hx hb dX12_character_23 (by decide) ?_
      exact L27 z_1 (A 56 (y1.toNat)) hw H locs ls hP hD hS (lv_sub hl [0] rfl)

noncomputable def wp_compare_44 (z : Nat → Int) (A : Nat → Nat → Int) (t0 : Int) (Q : Int → (Nat → Int) → (Nat → Nat → Int) → Prop) : Prop := Q t0 z A
noncomputable def wp_compare_42 (z : Nat → Int) (A : Nat → Nat → Int) (Q : Int → (Nat → Int) → (Nat → Nat → Int) → Prop) : Prop := wp_compare_44 z A (-2)  Q
noncomputable def wp_compare (z : Nat → Int) (A : Nat → Nat → Int) (y1 : Int) (y2 : Int) (Q : Int → (Nat → Int) → (Nat → Nat → Int) → Prop) : Prop := ∀ z_1 : Nat → Int, z_1 = lp_U z 3 0 → wp_has z_1 A y1 (fun r_2 => hz_rI r_2 ∧ ((r_2 = 0 → wp_compare_42 z_1 A  Q) ∧ (¬ (r_2 = 0) → wp_has z_1 A y2 (fun r_4 => hz_rI r_4 ∧ ((r_4 = 0 → wp_compare_42 z_1 A  Q) ∧ (¬ (r_4 = 0) → wp_compareFractions z_1 A (4231 + (2 * y1)) (4231 + (2 * y2)) (fun r_6 A_7 => wp_compare_44 z_1 A_7 r_6  Q)))))))
set_option maxHeartbeats 4000000 in
set_option maxRecDepth 100000 in
theorem k_compare (l : Launch) (D : va_G) (sz : Nat) (om : Nat) (R : Nat → Nat) (C : Nat → ClassId) (z : Nat → Int) (A : Nat → Nat → Int) (y1 : Int) (y2 : Int) (Q : Int → (Nat → Int) → (Nat → Nat → Int) → Prop) (hw : wp_compare z A y1 y2 Q) : Met l yX12_compare wsX12_compare ({ frames := 5, cells := 0, slots := 0, locals := 111 } : Room) (va_Pc [.ref om, .int (hz_i y1), .int (hz_i y2)] (hm_P D (mw_w om R C z A) (mw_t C) sz)) (va_Qi (S := Int × (Nat → Int) × (Nat → Nat → Int)) (fun r u => r = hz_i u.1 ∧ Q u.1 u.2.1 u.2.2) (fun u t => hm_B D (va_A (mw_w om R C z A) sz) (mw_w om R C u.2.1 u.2.2) (mw_t C) t) (va_A (mw_w om R C z A) sz)) 0 0 (va_A (mw_w om R C z A) sz) := by
  refine Met.ofW (cc := cX12_compare) (maxL := 3) (ret := (some .int)) (by decide) rfl ?_
  intro p e s m args below meth c s₁ B hml hv
  obtain ⟨rfl, hsz, hP, hK, hD0, hE⟩ := hv
  have hx := B.exec
  have hb := B.bytes
  have hr := B.returns
  have hts := atoms_spec (ws := wsX12_compare) B.pre
  have hown : s.vm.findClass RX12 = some m.cls := findClass_of_methodNamed B.named
  have hlocks := B.notSynchronized
  have hin12 : ∀ w ∈ u_ws RX12 TX12 58, w ∈ wsX12_compare := fun w h => List.mem_cons_of_mem _ (List.mem_append_right _ (h))
  subst hsz
  have hD := hD0.self (sz := s.heap.size)
  generalize hAe : va_A (mw_w om R C z A) s.heap.size = Ad at hD ⊢
  have hA : ∀ q : Nat, s.heap.size ≤ q → Ad q := fun q h => by rw [← hAe]; exact Or.inr h
  have hS : va_S Ad s.heap s.heap [] := va_S.rf
  have hl := lv_entry ([.ref om, .int (hz_i y1), .int (hz_i y2)]) (n := 3) (Nat.le_of_ble_eq_true rfl)
  rw [lg_entry_eq]
  generalize (lg_sl ([.ref om, .int (hz_i y1), .int (hz_i y2)]) ++ List.replicate (3 - (lg_sl ([.ref om, .int (hz_i y1), .int (hz_i y2)])).length) Slot.unset).toArray = ls at hl ⊢
  have hl : lv_has ls 3 [(0, .ref om), (1, .int (hz_i y1)), (2, .int (hz_i y2))] := hl
  refine mw_Q (fun QQ hQQ => ?_)
  have hP0 := hP; have hD0 := hD; have hS0 := hS; have hl0 := hl; have hw0 := hw
  clear hP hD hS hl hw
  have L44 : ∀ (z : Nat → Int) (A : Nat → Nat → Int) (t0 : Int), wp_compare_44 z A t0  Q → ∀ (H : Heap) (locs : List Loc) (ls : Array Slot), va_P D vwCl (mw_w om R C z A) H → va_D Ad (mw_w om R C z A) → va_S Ad s.heap H locs → lv_has ls 3 [(0, .ref om)] → W p l e (headSpec wsX12_compare ({ frames := 5, cells := 0, slots := 0, locals := 111 } : Room)).room s m (List.toArray [.ref om, .int (hz_i y1), .int (hz_i y2)]) below meth c H locs 0 0 QQ (F0 m 44 ls [.int (hz_i t0)]) := by
    intro z A t0 hw H locs ls hP hD hS hl
    subst hQQ
    subst hAe
    exact W.iret (v := hz_i t0) hx hb hr (fun t ht hW => ⟨⟨hz_i t0, (t0, z, A), rfl, ⟨rfl, hw⟩, by rw [ht]; exact hP, va_K.moved hW.alike hK, hD⟩, hS.F ht⟩) hS.2.2 dX12_compare_44
  have L42 : ∀ (z : Nat → Int) (A : Nat → Nat → Int), wp_compare_42 z A  Q → ∀ (H : Heap) (locs : List Loc) (ls : Array Slot), va_P D vwCl (mw_w om R C z A) H → va_D Ad (mw_w om R C z A) → va_S Ad s.heap H locs → lv_has ls 3 [(0, .ref om)] → W p l e (headSpec wsX12_compare ({ frames := 5, cells := 0, slots := 0, locals := 111 } : Room)).room s m (List.toArray [.ref om, .int (hz_i y1), .int (hz_i y2)]) below meth c H locs 0 0 QQ (F0 m 42 ls []) := by
    intro z A hw H locs ls hP hD hS hl
    refine lv_bipush (v := hz_i (-2)) hx hb dX12_compare_42 (by decide +kernel) ?_
    exact L44 z A (-2) hw H locs ls hP hD hS (lv_sub hl [0] rfl)
  have hP := hP0; have hD := hD0; have hS := hS0; have hl := hl0; have hw := hw0
  obtain ⟨H, hH⟩ : ∃ H : Heap, H = s.heap := ⟨_, rfl⟩
  obtain ⟨locs, hlocs⟩ : ∃ L : List Loc, L = [] := ⟨_, rfl⟩
  rw [← hH] at hP
  have hS : va_S Ad s.heap H locs := by rw [hH, hlocs]; exact hS
  refine mw_HL hH hlocs ?_
  refine lv_aload_n hx hb dX12_compare_0 rfl (lv_at hl 0 rfl) ?_
  refine lv_iconst (v := hz_i 0) hx hb dX12_compare_1 (by decide +kernel) ?_
  refine mw_put (ty := .int) (v := .int (hz_i 0)) hx hb hts hin12 hown hK hP hD hS 3 (by decide) (hts (.fieldLink RX12 223 "HiddenMovesModel" "thrown" "I") (List.mem_cons_of_mem _ (List.mem_append_left _ (List.mem_append_left _ (List.mem_of_getElem? (i := 0) rfl))))) (fun _ h9 => h9) rfl (by decide +kernel) rfl rfl (mw_s3 R z 0) dX12_compare_2 (fun H locs hP hD hS => ?_)
  obtain ⟨z_1, hz_1⟩ : ∃ y : Nat → Int, y = lp_U z 3 0 := ⟨_, rfl⟩
  rw [← hz_1] at hP hD
  have hw := hw z_1 hz_1
  refine lv_aload_n hx hb dX12_compare_5 rfl (lv_at hl 0 rfl) ?_
  refine lv_iload_n hx hb dX12_compare_6 rfl (lv_at hl 1 rfl) ?_
  have hFc := mw_free hD hS hA
  refine va_calli (va_runV (As := [.int (hz_i y1)]) (rest := []) ⟨hx, hb, hml, hown, hts⟩ (k_has l D _ om R C z_1 A y1 _ hw) (cwV 1 hts gX12_compare_X12_has rfl rfl rfl (by decide +kernel) ⟨Nat.le_of_ble_eq_true rfl, Nat.le_of_ble_eq_true rfl⟩) ⟨hm_blind, va_recv hK hP (ci := 12) (q0 := 0) rfl rfl, hm_pre hP hK hD hE⟩ rfl rfl hl.1 rfl (lv_room (Nat.le_of_ble_eq_true rfl)) dX12_compare_7 ⟨Nat.le_of_ble_eq_true rfl, Nat.le_of_ble_eq_true rfl⟩) hS (fun q _ h => hFc q h) hFc (fun rv u t H1 locs ht hvm hw hB hz1 hk1 hS => ?_)
  obtain ⟨r_2, _, _⟩ := u
  obtain ⟨hP, hK1, hD1⟩ := hB
  rw [ht] at hP
  obtain ⟨hrv, hw⟩ := hw
  subst hrv
  have hD := hD1.weaken (fun k q _ h => hFc q.1 h)
  have hP : va_P D vwCl (mw_w om R C z_1 A) H1 := hP
  have hD : va_D Ad (mw_w om R C z_1 A) := hD
  generalize H1 = H at hP hS ⊢
  refine W.eq (g2 := F0 m 10 ls [.int (hz_i r_2)]) rfl ?_
  obtain ⟨h9a, hw⟩ := hw
  refine hz_if_eq (tgt := 42) hx hb dX12_compare_10 (by decide) h9a (fun c_3 => ?_) (fun c_3 => ?_)
  · have hw := hw.1 c_3
    exact L42 z_1 A hw H locs ls hP hD hS (lv_sub hl [0] rfl)
  · have hw := hw.2 c_3
    refine lv_aload_n hx hb dX12_compare_13 rfl (lv_at hl 0 rfl) ?_
    refine lv_iload_n hx hb dX12_compare_14 rfl (lv_at hl 2 rfl) ?_
    have hFc := mw_free hD hS hA
    refine va_calli (va_runV (As := [.int (hz_i y2)]) (rest := []) ⟨hx, hb, hml, hown, hts⟩ (k_has l D _ om R C z_1 A y2 _ hw) (cwV 1 hts gX12_compare_X12_has rfl rfl rfl (by decide +kernel) ⟨Nat.le_of_ble_eq_true rfl, Nat.le_of_ble_eq_true rfl⟩) ⟨hm_blind, va_recv hK hP (ci := 12) (q0 := 0) rfl rfl, hm_pre hP hK hD hE⟩ rfl rfl hl.1 rfl (lv_room (Nat.le_of_ble_eq_true rfl)) dX12_compare_15 ⟨Nat.le_of_ble_eq_true rfl, Nat.le_of_ble_eq_true rfl⟩) hS (fun q _ h => hFc q h) hFc (fun rv u t H1 locs ht hvm hw hB hz1 hk1 hS => ?_)
    obtain ⟨r_4, _, _⟩ := u
    obtain ⟨hP, hK1, hD1⟩ := hB
    rw [ht] at hP
    obtain ⟨hrv, hw⟩ := hw
    subst hrv
    have hD := hD1.weaken (fun k q _ h => hFc q.1 h)
    have hP : va_P D vwCl (mw_w om R C z_1 A) H1 := hP
    have hD : va_D Ad (mw_w om R C z_1 A) := hD
    generalize H1 = H at hP hS ⊢
    refine W.eq (g2 := F0 m 18 ls [.int (hz_i r_4)]) rfl ?_
    obtain ⟨h9a, hw⟩ := hw
    refine hz_if_eq (tgt := 42) hx hb dX12_compare_18 (by decide) h9a (fun c_5 => ?_) (fun c_5 => ?_)
    · have hw := hw.1 c_5
      exact L42 z_1 A hw H locs ls hP hD hS (lv_sub hl [0] rfl)
    · have hw := hw.2 c_5
      refine lv_aload_n hx hb dX12_compare_21 rfl (lv_at hl 0 rfl) ?_
      refine lv_sipush (v := hz_i 4231) hx hb dX12_compare_22 (by decide +kernel) ?_
      refine lv_iconst (v := hz_i 2) hx hb dX12_compare_25 (by decide +kernel) ?_
      refine lv_iload_n hx hb dX12_compare_26 rfl (lv_at hl 1 rfl) ?_
      refine hz_imul hx hb dX12_compare_27 ?_
      refine hz_iadd hx hb dX12_compare_28 ?_
      refine lv_sipush (v := hz_i 4231) hx hb dX12_compare_29 (by decide +kernel) ?_
      refine lv_iconst (v := hz_i 2) hx hb dX12_compare_32 (by decide +kernel) ?_
      refine lv_iload_n hx hb dX12_compare_33 rfl (lv_at hl 2 rfl) ?_
      refine hz_imul hx hb dX12_compare_34 ?_
      refine hz_iadd hx hb dX12_compare_35 ?_
      have hFc := mw_free hD hS hA
      refine va_calli (va_runV (As := [.int (hz_i (4231 + (2 * y1))), .int (hz_i (4231 + (2 * y2)))]) (rest := []) ⟨hx, hb, hml, hown, hts⟩ (k_compareFractions l D _ om R C z_1 A (4231 + (2 * y1)) (4231 + (2 * y2)) _ hw) (cwV 2 hts gX12_compare_X12_compareFractions rfl rfl rfl (by decide +kernel) ⟨Nat.le_of_ble_eq_true rfl, Nat.le_of_ble_eq_true rfl⟩) ⟨hm_blind, va_recv hK hP (ci := 12) (q0 := 0) rfl rfl, hm_pre hP hK hD hE⟩ rfl rfl hl.1 rfl (lv_room (Nat.le_of_ble_eq_true rfl)) dX12_compare_36 ⟨Nat.le_of_ble_eq_true rfl, Nat.le_of_ble_eq_true rfl⟩) hS (fun q _ h => hFc q h) hFc (fun rv u t H1 locs ht hvm hw hB hz1 hk1 hS => ?_)
      obtain ⟨r_6, _, A_7⟩ := u
      obtain ⟨hP, hK1, hD1⟩ := hB
      rw [ht] at hP
      obtain ⟨hrv, hw⟩ := hw
      subst hrv
      have hD := hD1.weaken (fun k q _ h => hFc q.1 h)
      have hP : va_P D vwCl (mw_w om R C z_1 A_7) H1 := hP
      have hD : va_D Ad (mw_w om R C z_1 A_7) := hD
      generalize H1 = H at hP hS ⊢
      refine W.eq (g2 := F0 m 39 ls [.int (hz_i r_6)]) rfl ?_
      refine lv_goto (tgt := 44) hx hb dX12_compare_39 (by decide) ?_
      exact L44 z_1 A_7 r_6 hw H locs ls hP hD hS (lv_sub hl [0] rfl)

noncomputable def wp_check_19 (z : Nat → Int) (A : Nat → Nat → Int) (t0 : Int) (Q : Int → (Nat → Int) → Prop) : Prop := Q t0 z
noncomputable def wp_check (z : Nat → Int) (A : Nat → Nat → Int) (Q : Int → (Nat → Int) → Prop) : Prop := ∀ z_1 : Nat → Int, z_1 = lp_U z 3 0 → hz_rI (A 51 ((0 : Int).toNat)) ∧ ((A 51 ((0 : Int).toNat) = 0 → wp_check_19 z_1 A (-1)  Q) ∧ (¬ (A 51 ((0 : Int).toNat) = 0) → wp_check_19 z_1 A 1  Q))
set_option maxHeartbeats 4000000 in
set_option maxRecDepth 100000 in
theorem k_check (l : Launch) (D : va_G) (sz : Nat) (om : Nat) (R : Nat → Nat) (C : Nat → ClassId) (z : Nat → Int) (A : Nat → Nat → Int) (Q : Int → (Nat → Int) → Prop) (hw : wp_check z A Q) : Met l yX12_check wsX12_check ({ frames := 0, cells := 0, slots := 0, locals := 0 } : Room) (va_Pc [.ref om] (hm_P D (mw_w om R C z A) (mw_t C) sz)) (va_Qi (S := Int × (Nat → Int) × (Nat → Nat → Int)) (fun r u => r = hz_i u.1 ∧ Q u.1 u.2.1) (fun u t => hm_B D (va_A (mw_w om R C z A) sz) (mw_w om R C u.2.1 A) (mw_t C) t) (va_A (mw_w om R C z A) sz)) 0 0 (va_A (mw_w om R C z A) sz) := by
  refine Met.ofW (cc := cX12_check) (maxL := 1) (ret := (some .int)) (by decide) rfl ?_
  intro p e s m args below meth c s₁ B hml hv
  obtain ⟨rfl, hsz, hP, hK, hD0, hE⟩ := hv
  have hx := B.exec
  have hb := B.bytes
  have hr := B.returns
  have hts := atoms_spec (ws := wsX12_check) B.pre
  have hown : s.vm.findClass RX12 = some m.cls := findClass_of_methodNamed B.named
  have hlocks := B.notSynchronized
  have hin12 : ∀ w ∈ u_ws RX12 TX12 58, w ∈ wsX12_check := fun w h => List.mem_cons_of_mem _ (List.mem_append_right _ (h))
  subst hsz
  have hD := hD0.self (sz := s.heap.size)
  generalize hAe : va_A (mw_w om R C z A) s.heap.size = Ad at hD ⊢
  have hA : ∀ q : Nat, s.heap.size ≤ q → Ad q := fun q h => by rw [← hAe]; exact Or.inr h
  have hS : va_S Ad s.heap s.heap [] := va_S.rf
  have hl := lv_entry ([.ref om]) (n := 1) (Nat.le_of_ble_eq_true rfl)
  rw [lg_entry_eq]
  generalize (lg_sl ([.ref om]) ++ List.replicate (1 - (lg_sl ([.ref om])).length) Slot.unset).toArray = ls at hl ⊢
  have hl : lv_has ls 1 [(0, .ref om)] := hl
  refine mw_Q (fun QQ hQQ => ?_)
  have hP0 := hP; have hD0 := hD; have hS0 := hS; have hl0 := hl; have hw0 := hw
  clear hP hD hS hl hw
  have L19 : ∀ (z : Nat → Int) (t0 : Int), wp_check_19 z A t0  Q → ∀ (H : Heap) (locs : List Loc) (ls : Array Slot), va_P D vwCl (mw_w om R C z A) H → va_D Ad (mw_w om R C z A) → va_S Ad s.heap H locs → lv_has ls 1 [(0, .ref om)] → W p l e (headSpec wsX12_check ({ frames := 0, cells := 0, slots := 0, locals := 0 } : Room)).room s m (List.toArray [.ref om]) below meth c H locs 0 0 QQ (F0 m 19 ls [.int (hz_i t0)]) := by
    intro z t0 hw H locs ls hP hD hS hl
    subst hQQ
    subst hAe
    exact W.iret (v := hz_i t0) hx hb hr (fun t ht hW => ⟨⟨hz_i t0, (t0, z, A), rfl, ⟨rfl, hw⟩, by rw [ht]; exact hP, va_K.moved hW.alike hK, hD⟩, hS.F ht⟩) hS.2.2 dX12_check_19
  have hP := hP0; have hD := hD0; have hS := hS0; have hl := hl0; have hw := hw0
  obtain ⟨H, hH⟩ : ∃ H : Heap, H = s.heap := ⟨_, rfl⟩
  obtain ⟨locs, hlocs⟩ : ∃ L : List Loc, L = [] := ⟨_, rfl⟩
  rw [← hH] at hP
  have hS : va_S Ad s.heap H locs := by rw [hH, hlocs]; exact hS
  refine mw_HL hH hlocs ?_
  refine lv_aload_n hx hb dX12_check_0 rfl (lv_at hl 0 rfl) ?_
  refine lv_iconst (v := hz_i 0) hx hb dX12_check_1 (by decide +kernel) ?_
  refine mw_put (ty := .int) (v := .int (hz_i 0)) hx hb hts hin12 hown hK hP hD hS 3 (by decide) (hts (.fieldLink RX12 223 "HiddenMovesModel" "thrown" "I") (List.mem_cons_of_mem _ (List.mem_append_left _ (List.mem_of_getElem? (i := 0) rfl)))) (fun _ h9 => h9) rfl (by decide +kernel) rfl rfl (mw_s3 R z 0) dX12_check_2 (fun H locs hP hD hS => ?_)
  obtain ⟨z_1, hz_1⟩ : ∃ y : Nat → Int, y = lp_U z 3 0 := ⟨_, rfl⟩
  rw [← hz_1] at hP hD
  have hw := hw z_1 hz_1
  refine lv_aload_n hx hb dX12_check_5 rfl (lv_at hl 0 rfl) ?_
  refine mw_get (v := .ref (R 51)) hx hb hts hin12 hown hK hP 51 (by decide) (hts (.fieldLink RX12 205 "HiddenMovesModel" "isThere" "[Z") (List.mem_cons_of_mem _ (List.mem_append_left _ (List.mem_of_getElem? (i := 1) rfl)))) (fun _ h9 => h9) rfl dX12_check_6 ?_
  refine lv_iconst (v := hz_i 0) hx hb dX12_check_9 (by decide +kernel) ?_
  refine mw_zld (k := 51) (n := 4) (i := 0) hx hb hK hP 38 37 rfl rfl (by decide) (by decide) dX12_check_10 ?_
  obtain ⟨h9a, hw⟩ := hw
  refine hz_if_eq (tgt := 18) hx hb dX12_check_11 (by decide) h9a (fun c_2 => ?_) (fun c_2 => ?_)
  · have hw := hw.1 c_2
    refine lv_iconst (v := hz_i (-1)) hx hb dX12_check_18 (by decide +kernel) ?_
    exact L19 z_1 (-1) hw H locs ls hP hD hS (lv_sub hl [0] rfl)
  · have hw := hw.2 c_2
    refine lv_iconst (v := hz_i 1) hx hb dX12_check_14 (by decide +kernel) ?_
    refine lv_goto (tgt := 19) hx hb dX12_check_15 (by decide) ?_
    exact L19 z_1 1 hw H locs ls hP hD hS (lv_sub hl [0] rfl)
