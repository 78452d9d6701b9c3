noncomputable def wp_settle_150 (z : Nat → Int) (A : Nat → Nat → Int) (y1 : Int) (Q : (Nat → Nat → Int) → Prop) : Prop := wp_bigCopy z A y1 4243 (fun A_2 => wp_bigCopy z A_2 (y1 + 1) 4244 (fun A_4 => Q A_4))
noncomputable def wp_settle_54 (z : Nat → Int) (A : Nat → Nat → Int) (y1 : Int) (Q : (Nat → Nat → Int) → Prop) : Prop := ∀ P54 : (Nat → Nat → Int) → Prop, (∀ (A : Nat → Nat → Int), wp_bigIsZero z A 4249 (fun r_5 => hz_rI r_5 ∧ ((¬ r_5 = 0 → wp_bigIsOne z A 4245 (fun r_7 => hz_rI r_7 ∧ ((¬ r_7 = 0 → wp_settle_150 z A y1  Q) ∧ (r_7 = 0 → wp_divideAll z A 4243 4245 (fun A_10 => wp_divideAll z A_10 4244 4245 (fun A_12 => wp_settle_150 z A_12 y1  Q)))))) ∧ (r_5 = 0 → wp_bigCopy z A 4248 4249 (fun A_14 => wp_bigDivide z A_14 4245 4248 4246 (fun A_16 => wp_bigCopy z A_16 4247 4245 (fun A_18 => wp_bigCopy z A_18 4245 4249 (fun A_20 => wp_bigCopy z A_20 4249 4247 (fun A_22 => P54 A_22)))))))) → P54 A) → P54 A
noncomputable def wp_settle (z : Nat → Int) (A : Nat → Nat → Int) (y1 : Int) (Q : (Nat → Nat → Int) → Prop) : Prop := wp_bigIsZero z A 4243 (fun r_23 => hz_rI r_23 ∧ ((r_23 = 0 → wp_bigCopy z A 4245 4243 (fun A_26 => ∀ A_27 : Nat → Nat → Int, A_27 = hz_s A_26 2 4245 0 → wp_bigCopy z A_27 4249 4244 (fun A_29 => wp_settle_54 z A_29 y1  Q))) ∧ (¬ (r_23 = 0) → wp_bigSet z A y1 0 (fun A_31 => wp_bigSet z A_31 (y1 + 1) 1 (fun A_33 => Q A_33)))))
set_option maxHeartbeats 4000000 in
set_option maxRecDepth 100000 in
theorem k_settle (l : Launch) (D : va_G) (sz : Nat) (om : Nat) (R : Nat → Nat) (C : Nat → ClassId) (z : Nat → Int) (A : Nat → Nat → Int) (y1 : Int) (Q : (Nat → Nat → Int) → Prop) (hw : wp_settle z A y1 Q) : Met l yX12_settle wsX12_settle ({ frames := 5, cells := 0, slots := 0, locals := 129 } : Room) (va_Pc [.ref om, .int (hz_i y1)] (hm_P D (mw_w om R C z A) (mw_t C) sz)) (va_Qv (S := Int × (Nat → Int) × (Nat → Nat → Int)) (fun u => Q u.2.2) (fun u t => hm_B D (va_A (mw_w om R C z A) sz) (mw_w om R C z u.2.2) (mw_t C) t) (va_A (mw_w om R C z A) sz)) 0 0 (va_A (mw_w om R C z A) sz) := by
  refine Met.ofW (cc := cX12_settle) (maxL := 2) (ret := none) (by decide) rfl ?_
  intro p e s m args below meth c s₁ B hml hv
  obtain ⟨rfl, hsz, hP, hK, hD0, hE⟩ := hv
  have hx := B.exec
  have hb := B.bytes
  have hr := B.returns
  have hts := atoms_spec (ws := wsX12_settle) B.pre
  have hown : s.vm.findClass RX12 = some m.cls := findClass_of_methodNamed B.named
  have hlocks := B.notSynchronized
  have hin12 : ∀ w ∈ u_ws RX12 TX12 58, w ∈ wsX12_settle := fun w h => List.mem_cons_of_mem _ (List.mem_append_right _ (h))
  subst hsz
  have hD := hD0.self (sz := s.heap.size)
  generalize hAe : va_A (mw_w om R C z A) s.heap.size = Ad at hD ⊢
  have hA : ∀ q : Nat, s.heap.size ≤ q → Ad q := fun q h => by rw [← hAe]; exact Or.inr h
  have hS : va_S Ad s.heap s.heap [] := va_S.rf
  have hl := lv_entry ([.ref om, .int (hz_i y1)]) (n := 2) (Nat.le_of_ble_eq_true rfl)
  rw [lg_entry_eq]
  generalize (lg_sl ([.ref om, .int (hz_i y1)]) ++ List.replicate (2 - (lg_sl ([.ref om, .int (hz_i y1)])).length) Slot.unset).toArray = ls at hl ⊢
  have hl : lv_has ls 2 [(0, .ref om), (1, .int (hz_i y1))] := hl
  refine mw_Q (fun QQ hQQ => ?_)
  have hP0 := hP; have hD0 := hD; have hS0 := hS; have hl0 := hl; have hw0 := hw
  clear hP hD hS hl hw
  have L150 : ∀ (A : Nat → Nat → Int), wp_settle_150 z A y1  Q → ∀ (H : Heap) (locs : List Loc) (ls : Array Slot), va_P D vwCl (mw_w om R C z A) H → va_D Ad (mw_w om R C z A) → va_S Ad s.heap H locs → lv_has ls 2 [(0, .ref om), (1, .int (hz_i y1))] → W p l e (headSpec wsX12_settle ({ frames := 5, cells := 0, slots := 0, locals := 129 } : Room)).room s m (List.toArray [.ref om, .int (hz_i y1)]) below meth c H locs 0 0 QQ (F0 m 150 ls []) := by
    intro A hw H locs ls hP hD hS hl
    refine lv_aload_n hx hb dX12_settle_150 rfl (lv_at hl 0 rfl) ?_
    refine lv_iload_n hx hb dX12_settle_151 rfl (lv_at hl 1 rfl) ?_
    refine lv_sipush (v := hz_i 4243) hx hb dX12_settle_152 (by decide +kernel) ?_
    have hFc := mw_free hD hS hA
    refine va_callv (va_runV (As := [.int (hz_i y1), .int (hz_i 4243)]) (rest := []) ⟨hx, hb, hml, hown, hts⟩ (k_bigCopy l D _ om R C z A y1 4243 _ hw) (cwV 2 hts gX12_settle_X12_bigCopy rfl rfl rfl (by decide +kernel) ⟨Nat.le_of_ble_eq_true rfl, Nat.le_of_ble_eq_true rfl⟩) ⟨hm_blind, va_recv hK hP (ci := 12) (q0 := 0) rfl rfl, hm_pre hP hK hD hE⟩ rfl rfl hl.1 rfl (lv_room (Nat.le_of_ble_eq_true rfl)) dX12_settle_155 ⟨Nat.le_of_ble_eq_true rfl, Nat.le_of_ble_eq_true rfl⟩) hS (fun q _ h => hFc q h) hFc (fun u t H1 locs ht hvm hw hB hz1 hk1 hS => ?_)
    obtain ⟨r_1, _, A_2⟩ := u
    obtain ⟨hP, hK1, hD1⟩ := hB
    rw [ht] at hP
    have hD := hD1.weaken (fun k q _ h => hFc q.1 h)
    have hP : va_P D vwCl (mw_w om R C z A_2) H1 := hP
    have hD : va_D Ad (mw_w om R C z A_2) := hD
    generalize H1 = H at hP hS ⊢
    refine W.eq (g2 := F0 m 158 ls []) rfl ?_
    refine lv_aload_n hx hb dX12_settle_158 rfl (lv_at hl 0 rfl) ?_
    refine lv_iload_n hx hb dX12_settle_159 rfl (lv_at hl 1 rfl) ?_
    refine lv_iconst (v := hz_i 1) hx hb dX12_settle_160 (by decide +kernel) ?_
    refine hz_iadd hx hb dX12_settle_161 ?_
    refine lv_sipush (v := hz_i 4244) hx hb dX12_settle_162 (by decide +kernel) ?_
    have hFc := mw_free hD hS hA
    refine va_callv (va_runV (As := [.int (hz_i (y1 + 1)), .int (hz_i 4244)]) (rest := []) ⟨hx, hb, hml, hown, hts⟩ (k_bigCopy l D _ om R C z A_2 (y1 + 1) 4244 _ hw) (cwV 2 hts gX12_settle_X12_bigCopy rfl rfl rfl (by decide +kernel) ⟨Nat.le_of_ble_eq_true rfl, Nat.le_of_ble_eq_true rfl⟩) ⟨hm_blind, va_recv hK hP (ci := 12) (q0 := 0) rfl rfl, hm_pre hP hK hD hE⟩ rfl rfl hl.1 rfl (lv_room (Nat.le_of_ble_eq_true rfl)) dX12_settle_165 ⟨Nat.le_of_ble_eq_true rfl, Nat.le_of_ble_eq_true rfl⟩) hS (fun q _ h => hFc q h) hFc (fun u t H1 locs ht hvm hw hB hz1 hk1 hS => ?_)
    obtain ⟨r_3, _, A_4⟩ := u
    obtain ⟨hP, hK1, hD1⟩ := hB
    rw [ht] at hP
    have hD := hD1.weaken (fun k q _ h => hFc q.1 h)
    have hP : va_P D vwCl (mw_w om R C z A_4) H1 := hP
    have hD : va_D Ad (mw_w om R C z A_4) := hD
    generalize H1 = H at hP hS ⊢
    refine W.eq (g2 := F0 m 168 ls []) rfl ?_
    subst hQQ
    subst hAe
    exact W.vret hx hb hr (fun t ht hW => ⟨⟨(0, z, A_4), rfl, hw, by rw [ht]; exact hP, va_K.moved hW.alike hK, hD⟩, hS.F ht⟩) hS.2.2 dX12_settle_168
  have L54 : ∀ (A : Nat → Nat → Int), wp_settle_54 z A y1  Q → ∀ (H : Heap) (locs : List Loc) (ls : Array Slot), va_P D vwCl (mw_w om R C z A) H → va_D Ad (mw_w om R C z A) → va_S Ad s.heap H locs → lv_has ls 2 [(0, .ref om), (1, .int (hz_i y1))] → W p l e (headSpec wsX12_settle ({ frames := 5, cells := 0, slots := 0, locals := 129 } : Room)).room s m (List.toArray [.ref om, .int (hz_i y1)]) below meth c H locs 0 0 QQ (F0 m 54 ls []) := by
    intro A hw
    obtain ⟨P54, hP54⟩ : ∃ P : (Nat → Nat → Int) → Prop, ∀ (A : Nat → Nat → Int), P A ↔ (∀ (H : Heap) (locs : List Loc) (ls : Array Slot), va_P D vwCl (mw_w om R C z A) H → va_D Ad (mw_w om R C z A) → va_S Ad s.heap H locs → lv_has ls 2 [(0, .ref om), (1, .int (hz_i y1))] → W p l e (headSpec wsX12_settle ({ frames := 5, cells := 0, slots := 0, locals := 129 } : Room)).room s m (List.toArray [.ref om, .int (hz_i y1)]) below meth c H locs 0 0 QQ (F0 m 54 ls [])) := ⟨fun (A : Nat → Nat → Int) => ∀ (H : Heap) (locs : List Loc) (ls : Array Slot), va_P D vwCl (mw_w om R C z A) H → va_D Ad (mw_w om R C z A) → va_S Ad s.heap H locs → lv_has ls 2 [(0, .ref om), (1, .int (hz_i y1))] → W p l e (headSpec wsX12_settle ({ frames := 5, cells := 0, slots := 0, locals := 129 } : Room)).room s m (List.toArray [.ref om, .int (hz_i y1)]) below meth c H locs 0 0 QQ (F0 m 54 ls []), fun _ => Iff.rfl⟩
    refine (hP54 A).mp (hw P54 ?_)
    intro A hw
    refine (hP54 A).mpr ?_
    intro H locs ls hP hD hS hl
    refine lv_aload_n hx hb dX12_settle_54 rfl (lv_at hl 0 rfl) ?_
    refine lv_sipush (v := hz_i 4249) hx hb dX12_settle_55 (by decide +kernel) ?_
    have hFc := mw_free hD hS hA
    refine va_calli (va_runV (As := [.int (hz_i 4249)]) (rest := []) ⟨hx, hb, hml, hown, hts⟩ (k_bigIsZero l D _ om R C z A 4249 _ hw) (cwV 1 hts gX12_settle_X12_bigIsZero rfl rfl rfl (by decide +kernel) ⟨Nat.le_of_ble_eq_true rfl, Nat.le_of_ble_eq_true rfl⟩) ⟨hm_blind, va_recv hK hP (ci := 12) (q0 := 0) rfl rfl, hm_pre hP hK hD hE⟩ rfl rfl hl.1 rfl (lv_room (Nat.le_of_ble_eq_true rfl)) dX12_settle_58 ⟨Nat.le_of_ble_eq_true rfl, Nat.le_of_ble_eq_true rfl⟩) hS (fun q _ h => hFc q h) hFc (fun rv u t H1 locs ht hvm hw hB hz1 hk1 hS => ?_)
    obtain ⟨r_5, _, _⟩ := u
    obtain ⟨hP, hK1, hD1⟩ := hB
    rw [ht] at hP
    obtain ⟨hrv, hw⟩ := hw
    subst hrv
    have hD := hD1.weaken (fun k q _ h => hFc q.1 h)
    have hP : va_P D vwCl (mw_w om R C z A) H1 := hP
    have hD : va_D Ad (mw_w om R C z A) := hD
    generalize H1 = H at hP hS ⊢
    refine W.eq (g2 := F0 m 61 ls [.int (hz_i r_5)]) rfl ?_
    obtain ⟨h9a, hw⟩ := hw
    refine hz_if_ne (tgt := 120) hx hb dX12_settle_61 (by decide) h9a (fun c_6 => ?_) (fun c_6 => ?_)
    · have hw := hw.1 c_6
      refine lv_aload_n hx hb dX12_settle_120 rfl (lv_at hl 0 rfl) ?_
      refine lv_sipush (v := hz_i 4245) hx hb dX12_settle_121 (by decide +kernel) ?_
      have hFc := mw_free hD hS hA
      refine va_calli (va_runV (As := [.int (hz_i 4245)]) (rest := []) ⟨hx, hb, hml, hown, hts⟩ (k_bigIsOne l D _ om R C z A 4245 _ hw) (cwV 1 hts gX12_settle_X12_bigIsOne rfl rfl rfl (by decide +kernel) ⟨Nat.le_of_ble_eq_true rfl, Nat.le_of_ble_eq_true rfl⟩) ⟨hm_blind, va_recv hK hP (ci := 12) (q0 := 0) rfl rfl, hm_pre hP hK hD hE⟩ rfl rfl hl.1 rfl (lv_room (Nat.le_of_ble_eq_true rfl)) dX12_settle_124 ⟨Nat.le_of_ble_eq_true rfl, Nat.le_of_ble_eq_true rfl⟩) hS (fun q _ h => hFc q h) hFc (fun rv u t H1 locs ht hvm hw hB hz1 hk1 hS => ?_)
      obtain ⟨r_7, _, _⟩ := u
      obtain ⟨hP, hK1, hD1⟩ := hB
      rw [ht] at hP
      obtain ⟨hrv, hw⟩ := hw
      subst hrv
      have hD := hD1.weaken (fun k q _ h => hFc q.1 h)
      have hP : va_P D vwCl (mw_w om R C z A) H1 := hP
      have hD : va_D Ad (mw_w om R C z A) := hD
      generalize H1 = H at hP hS ⊢
      refine W.eq (g2 := F0 m 127 ls [.int (hz_i r_7)]) rfl ?_
      obtain ⟨h9a, hw⟩ := hw
      refine hz_if_ne (tgt := 150) hx hb dX12_settle_127 (by decide) h9a (fun c_8 => ?_) (fun c_8 => ?_)
      · have hw := hw.1 c_8
        exact L150 A hw H locs ls hP hD hS (lv_sub hl [0, 1] rfl)
      · have hw := hw.2 c_8
        refine lv_aload_n hx hb dX12_settle_130 rfl (lv_at hl 0 rfl) ?_
        refine lv_sipush (v := hz_i 4243) hx hb dX12_settle_131 (by decide +kernel) ?_
        refine lv_sipush (v := hz_i 4245) hx hb dX12_settle_134 (by decide +kernel) ?_
        have hFc := mw_free hD hS hA
        refine va_callv (va_runV (As := [.int (hz_i 4243), .int (hz_i 4245)]) (rest := []) ⟨hx, hb, hml, hown, hts⟩ (k_divideAll l D _ om R C z A 4243 4245 _ hw) (cwV 2 hts gX12_settle_X12_divideAll rfl rfl rfl (by decide +kernel) ⟨Nat.le_of_ble_eq_true rfl, Nat.le_of_ble_eq_true rfl⟩) ⟨hm_blind, va_recv hK hP (ci := 12) (q0 := 0) rfl rfl, hm_pre hP hK hD hE⟩ rfl rfl hl.1 rfl (lv_room (Nat.le_of_ble_eq_true rfl)) dX12_settle_137 ⟨Nat.le_of_ble_eq_true rfl, Nat.le_of_ble_eq_true rfl⟩) hS (fun q _ h => hFc q h) hFc (fun u t H1 locs ht hvm hw hB hz1 hk1 hS => ?_)
        obtain ⟨r_9, _, A_10⟩ := u
        obtain ⟨hP, hK1, hD1⟩ := hB
        rw [ht] at hP
        have hD := hD1.weaken (fun k q _ h => hFc q.1 h)
        have hP : va_P D vwCl (mw_w om R C z A_10) H1 := hP
        have hD : va_D Ad (mw_w om R C z A_10) := hD
        generalize H1 = H at hP hS ⊢
        refine W.eq (g2 := F0 m 140 ls []) rfl ?_
        refine lv_aload_n hx hb dX12_settle_140 rfl (lv_at hl 0 rfl) ?_
        refine lv_sipush (v := hz_i 4244) hx hb dX12_settle_141 (by decide +kernel) ?_
        refine lv_sipush (v := hz_i 4245) hx hb dX12_settle_144 (by decide +kernel) ?_
        have hFc := mw_free hD hS hA
        refine va_callv (va_runV (As := [.int (hz_i 4244), .int (hz_i 4245)]) (rest := []) ⟨hx, hb, hml, hown, hts⟩ (k_divideAll l D _ om R C z A_10 4244 4245 _ hw) (cwV 2 hts gX12_settle_X12_divideAll rfl rfl rfl (by decide +kernel) ⟨Nat.le_of_ble_eq_true rfl, Nat.le_of_ble_eq_true rfl⟩) ⟨hm_blind, va_recv hK hP (ci := 12) (q0 := 0) rfl rfl, hm_pre hP hK hD hE⟩ rfl rfl hl.1 rfl (lv_room (Nat.le_of_ble_eq_true rfl)) dX12_settle_147 ⟨Nat.le_of_ble_eq_true rfl, Nat.le_of_ble_eq_true rfl⟩) hS (fun q _ h => hFc q h) hFc (fun u t H1 locs ht hvm hw hB hz1 hk1 hS => ?_)
        obtain ⟨r_11, _, A_12⟩ := u
        obtain ⟨hP, hK1, hD1⟩ := hB
        rw [ht] at hP
        have hD := hD1.weaken (fun k q _ h => hFc q.1 h)
        have hP : va_P D vwCl (mw_w om R C z A_12) H1 := hP
        have hD : va_D Ad (mw_w om R C z A_12) := hD
        generalize H1 = H at hP hS ⊢
        refine W.eq (g2 := F0 m 150 ls []) rfl ?_
        exact L150 A_12 hw H locs ls hP hD hS (lv_sub hl [0, 1] rfl)
    · have hw := hw.2 c_6
      refine lv_aload_n hx hb dX12_settle_64 rfl (lv_at hl 0 rfl) ?_
      refine lv_sipush (v := hz_i 4248) hx hb dX12_settle_65 (by decide +kernel) ?_
      refine lv_sipush (v := hz_i 4249) hx hb dX12_settle_68 (by decide +kernel) ?_
      have hFc := mw_free hD hS hA
      refine va_callv (va_runV (As := [.int (hz_i 4248), .int (hz_i 4249)]) (rest := []) ⟨hx, hb, hml, hown, hts⟩ (k_bigCopy l D _ om R C z A 4248 4249 _ hw) (cwV 2 hts gX12_settle_X12_bigCopy rfl rfl rfl (by decide +kernel) ⟨Nat.le_of_ble_eq_true rfl, Nat.le_of_ble_eq_true rfl⟩) ⟨hm_blind, va_recv hK hP (ci := 12) (q0 := 0) rfl rfl, hm_pre hP hK hD hE⟩ rfl rfl hl.1 rfl (lv_room (Nat.le_of_ble_eq_true rfl)) dX12_settle_71 ⟨Nat.le_of_ble_eq_true rfl, Nat.le_of_ble_eq_true rfl⟩) hS (fun q _ h => hFc q h) hFc (fun u t H1 locs ht hvm hw hB hz1 hk1 hS => ?_)
      obtain ⟨r_13, _, A_14⟩ := u
      obtain ⟨hP, hK1, hD1⟩ := hB
      rw [ht] at hP
      have hD := hD1.weaken (fun k q _ h => hFc q.1 h)
      have hP : va_P D vwCl (mw_w om R C z A_14) H1 := hP
      have hD : va_D Ad (mw_w om R C z A_14) := hD
      generalize H1 = H at hP hS ⊢
      refine W.eq (g2 := F0 m 74 ls []) rfl ?_
      refine lv_aload_n hx hb dX12_settle_74 rfl (lv_at hl 0 rfl) ?_
      refine lv_sipush (v := hz_i 4245) hx hb dX12_settle_75 (by decide +kernel) ?_
      refine lv_sipush (v := hz_i 4248) hx hb dX12_settle_78 (by decide +kernel) ?_
      refine lv_sipush (v := hz_i 4246) hx hb dX12_settle_81 (by decide +kernel) ?_
      have hFc := mw_free hD hS hA
      refine va_callv (va_runV (As := [.int (hz_i 4245), .int (hz_i 4248), .int (hz_i 4246)]) (rest := []) ⟨hx, hb, hml, hown, hts⟩ (k_bigDivide l D _ om R C z A_14 4245 4248 4246 _ hw) (cwV 3 hts gX12_settle_X12_bigDivide rfl rfl rfl (by decide +kernel) ⟨Nat.le_of_ble_eq_true rfl, Nat.le_of_ble_eq_true rfl⟩) ⟨hm_blind, va_recv hK hP (ci := 12) (q0 := 0) rfl rfl, hm_pre hP hK hD hE⟩ rfl rfl hl.1 rfl (lv_room (Nat.le_of_ble_eq_true rfl)) dX12_settle_84 ⟨Nat.le_of_ble_eq_true rfl, Nat.le_of_ble_eq_true rfl⟩) hS (fun q _ h => hFc q h) hFc (fun u t H1 locs ht hvm hw hB hz1 hk1 hS => ?_)
      obtain ⟨r_15, _, A_16⟩ := u
      obtain ⟨hP, hK1, hD1⟩ := hB
      rw [ht] at hP
      have hD := hD1.weaken (fun k q _ h => hFc q.1 h)
      have hP : va_P D vwCl (mw_w om R C z A_16) H1 := hP
      have hD : va_D Ad (mw_w om R C z A_16) := hD
      generalize H1 = H at hP hS ⊢
      refine W.eq (g2 := F0 m 87 ls []) rfl ?_
      refine lv_aload_n hx hb dX12_settle_87 rfl (lv_at hl 0 rfl) ?_
      refine lv_sipush (v := hz_i 4247) hx hb dX12_settle_88 (by decide +kernel) ?_
      refine lv_sipush (v := hz_i 4245) hx hb dX12_settle_91 (by decide +kernel) ?_
      have hFc := mw_free hD hS hA
      refine va_callv (va_runV (As := [.int (hz_i 4247), .int (hz_i 4245)]) (rest := []) ⟨hx, hb, hml, hown, hts⟩ (k_bigCopy l D _ om R C z A_16 4247 4245 _ hw) (cwV 2 hts gX12_settle_X12_bigCopy rfl rfl rfl (by decide +kernel) ⟨Nat.le_of_ble_eq_true rfl, Nat.le_of_ble_eq_true rfl⟩) ⟨hm_blind, va_recv hK hP (ci := 12) (q0 := 0) rfl rfl, hm_pre hP hK hD hE⟩ rfl rfl hl.1 rfl (lv_room (Nat.le_of_ble_eq_true rfl)) dX12_settle_94 ⟨Nat.le_of_ble_eq_true rfl, Nat.le_of_ble_eq_true rfl⟩) hS (fun q _ h => hFc q h) hFc (fun u t H1 locs ht hvm hw hB hz1 hk1 hS => ?_)
      obtain ⟨r_17, _, A_18⟩ := u
      obtain ⟨hP, hK1, hD1⟩ := hB
      rw [ht] at hP
      have hD := hD1.weaken (fun k q _ h => hFc q.1 h)
      have hP : va_P D vwCl (mw_w om R C z A_18) H1 := hP
      have hD : va_D Ad (mw_w om R C z A_18) := hD
      generalize H1 = H at hP hS ⊢
      refine W.eq (g2 := F0 m 97 ls []) rfl ?_
      refine lv_aload_n hx hb dX12_settle_97 rfl (lv_at hl 0 rfl) ?_
      refine lv_sipush (v := hz_i 4245) hx hb dX12_settle_98 (by decide +kernel) ?_
      refine lv_sipush (v := hz_i 4249) hx hb dX12_settle_101 (by decide +kernel) ?_
      have hFc := mw_free hD hS hA
      refine va_callv (va_runV (As := [.int (hz_i 4245), .int (hz_i 4249)]) (rest := []) ⟨hx, hb, hml, hown, hts⟩ (k_bigCopy l D _ om R C z A_18 4245 4249 _ hw) (cwV 2 hts gX12_settle_X12_bigCopy rfl rfl rfl (by decide +kernel) ⟨Nat.le_of_ble_eq_true rfl, Nat.le_of_ble_eq_true rfl⟩) ⟨hm_blind, va_recv hK hP (ci := 12) (q0 := 0) rfl rfl, hm_pre hP hK hD hE⟩ rfl rfl hl.1 rfl (lv_room (Nat.le_of_ble_eq_true rfl)) dX12_settle_104 ⟨Nat.le_of_ble_eq_true rfl, Nat.le_of_ble_eq_true rfl⟩) hS (fun q _ h => hFc q h) hFc (fun u t H1 locs ht hvm hw hB hz1 hk1 hS => ?_)
      obtain ⟨r_19, _, A_20⟩ := u
      obtain ⟨hP, hK1, hD1⟩ := hB
      rw [ht] at hP
      have hD := hD1.weaken (fun k q _ h => hFc q.1 h)
      have hP : va_P D vwCl (mw_w om R C z A_20) H1 := hP
      have hD : va_D Ad (mw_w om R C z A_20) := hD
      generalize H1 = H at hP hS ⊢
      refine W.eq (g2 := F0 m 107 ls []) rfl ?_
      refine lv_aload_n hx hb dX12_settle_107 rfl (lv_at hl 0 rfl) ?_
      refine lv_sipush (v := hz_i 4249) hx hb dX12_settle_108 (by decide +kernel) ?_
      refine lv_sipush (v := hz_i 4247) hx hb dX12_settle_111 (by decide +kernel) ?_
      have hFc := mw_free hD hS hA
      refine va_callv (va_runV (As := [.int (hz_i 4249), .int (hz_i 4247)]) (rest := []) ⟨hx, hb, hml, hown, hts⟩ (k_bigCopy l D _ om R C z A_20 4249 4247 _ hw) (cwV 2 hts gX12_settle_X12_bigCopy rfl rfl rfl (by decide +kernel) ⟨Nat.le_of_ble_eq_true rfl, Nat.le_of_ble_eq_true rfl⟩) ⟨hm_blind, va_recv hK hP (ci := 12) (q0 := 0) rfl rfl, hm_pre hP hK hD hE⟩ rfl rfl hl.1 rfl (lv_room (Nat.le_of_ble_eq_true rfl)) dX12_settle_114 ⟨Nat.le_of_ble_eq_true rfl, Nat.le_of_ble_eq_true rfl⟩) hS (fun q _ h => hFc q h) hFc (fun u t H1 locs ht hvm hw hB hz1 hk1 hS => ?_)
      obtain ⟨r_21, _, A_22⟩ := u
      obtain ⟨hP, hK1, hD1⟩ := hB
      rw [ht] at hP
      have hD := hD1.weaken (fun k q _ h => hFc q.1 h)
      have hP : va_P D vwCl (mw_w om R C z A_22) H1 := hP
      have hD : va_D Ad (mw_w om R C z A_22) := hD
      generalize H1 = H at hP hS ⊢
      refine W.eq (g2 := F0 m 117 ls []) rfl ?_
      refine lv_goto (tgt := 54) hx hb dX12_settle_117 (by decide) ?_
      exact (hP54 A_22).mp hw H locs ls hP hD hS (lv_sub hl [0, 1] rfl)
  have hP := hP0; have hD := hD0; have hS := hS0; have hl := hl0; have hw := hw0
  obtain ⟨H, hH⟩ : ∃ H : Heap, H = s.heap := ⟨_, rfl⟩
  obtain ⟨locs, hlocs⟩ : ∃ L : List Loc, L = [] := ⟨_, rfl⟩
  rw [← hH] at hP
  have hS : va_S Ad s.heap H locs := by rw [hH, hlocs]; exact hS
  refine mw_HL hH hlocs ?_
  refine lv_aload_n hx hb dX12_settle_0 rfl (lv_at hl 0 rfl) ?_
  refine lv_sipush (v := hz_i 4243) hx hb dX12_settle_1 (by decide +kernel) ?_
  have hFc := mw_free hD hS hA
  refine va_calli (va_runV (As := [.int (hz_i 4243)]) (rest := []) ⟨hx, hb, hml, hown, hts⟩ (k_bigIsZero l D _ om R C z A 4243 _ hw) (cwV 1 hts gX12_settle_X12_bigIsZero rfl rfl rfl (by decide +kernel) ⟨Nat.le_of_ble_eq_true rfl, Nat.le_of_ble_eq_true rfl⟩) ⟨hm_blind, va_recv hK hP (ci := 12) (q0 := 0) rfl rfl, hm_pre hP hK hD hE⟩ rfl rfl hl.1 rfl (lv_room (Nat.le_of_ble_eq_true rfl)) dX12_settle_4 ⟨Nat.le_of_ble_eq_true rfl, Nat.le_of_ble_eq_true rfl⟩) hS (fun q _ h => hFc q h) hFc (fun rv u t H1 locs ht hvm hw hB hz1 hk1 hS => ?_)
  obtain ⟨r_23, _, _⟩ := u
  obtain ⟨hP, hK1, hD1⟩ := hB
  rw [ht] at hP
  obtain ⟨hrv, hw⟩ := hw
  subst hrv
  have hD := hD1.weaken (fun k q _ h => hFc q.1 h)
  have hP : va_P D vwCl (mw_w om R C z A) H1 := hP
  have hD : va_D Ad (mw_w om R C z A) := hD
  generalize H1 = H at hP hS ⊢
  refine W.eq (g2 := F0 m 7 ls [.int (hz_i r_23)]) rfl ?_
  obtain ⟨h9a, hw⟩ := hw
  refine hz_if_eq (tgt := 25) hx hb dX12_settle_7 (by decide) h9a (fun c_24 => ?_) (fun c_24 => ?_)
  · have hw := hw.1 c_24
    refine lv_aload_n hx hb dX12_settle_25 rfl (lv_at hl 0 rfl) ?_
    refine lv_sipush (v := hz_i 4245) hx hb dX12_settle_26 (by decide +kernel) ?_
    refine lv_sipush (v := hz_i 4243) hx hb dX12_settle_29 (by decide +kernel) ?_
    have hFc := mw_free hD hS hA
    refine va_callv (va_runV (As := [.int (hz_i 4245), .int (hz_i 4243)]) (rest := []) ⟨hx, hb, hml, hown, hts⟩ (k_bigCopy l D _ om R C z A 4245 4243 _ hw) (cwV 2 hts gX12_settle_X12_bigCopy rfl rfl rfl (by decide +kernel) ⟨Nat.le_of_ble_eq_true rfl, Nat.le_of_ble_eq_true rfl⟩) ⟨hm_blind, va_recv hK hP (ci := 12) (q0 := 0) rfl rfl, hm_pre hP hK hD hE⟩ rfl rfl hl.1 rfl (lv_room (Nat.le_of_ble_eq_true rfl)) dX12_settle_32 ⟨Nat.le_of_ble_eq_true rfl, Nat.le_of_ble_eq_true rfl⟩) hS (fun q _ h => hFc q h) hFc (fun u t H1 locs ht hvm hw hB hz1 hk1 hS => ?_)
    obtain ⟨r_25, _, A_26⟩ := u
    obtain ⟨hP, hK1, hD1⟩ := hB
    rw [ht] at hP
    have hD := hD1.weaken (fun k q _ h => hFc q.1 h)
    have hP : va_P D vwCl (mw_w om R C z A_26) H1 := hP
    have hD : va_D Ad (mw_w om R C z A_26) := hD
    generalize H1 = H at hP hS ⊢
    refine W.eq (g2 := F0 m 35 ls []) rfl ?_
    refine lv_aload_n hx hb dX12_settle_35 rfl (lv_at hl 0 rfl) ?_
    refine mw_get (v := .ref (R 2)) hx hb hts hin12 hown hK hP 2 (by decide) (hts (.fieldLink RX12 4 "HiddenMovesModel" "minus" "[Z") (List.mem_cons_of_mem _ (List.mem_append_left _ (List.mem_append_left _ (List.mem_of_getElem? (i := 0) rfl))))) (fun _ h9 => h9) rfl dX12_settle_36 ?_
    refine lv_sipush (v := hz_i 4245) hx hb dX12_settle_39 (by decide +kernel) ?_
    refine lv_iconst (v := hz_i 0) hx hb dX12_settle_42 (by decide +kernel) ?_
    refine mw_zst (k := 2) (n := 4250) (i := 4245) (v := 0) hx hb hK hP hD hS 3 2 rfl rfl (mw_a2 om R C z A_26) (by decide) (by decide) (by decide) dX12_settle_43 (fun H locs hP hD hS => ?_)
    obtain ⟨A_27, hA_27⟩ : ∃ y : Nat → Nat → Int, y = hz_s A_26 2 4245 0 := ⟨_, rfl⟩
    rw [← hA_27] at hP hD
    have hw := hw A_27 hA_27
    refine lv_aload_n hx hb dX12_settle_44 rfl (lv_at hl 0 rfl) ?_
    refine lv_sipush (v := hz_i 4249) hx hb dX12_settle_45 (by decide +kernel) ?_
    refine lv_sipush (v := hz_i 4244) hx hb dX12_settle_48 (by decide +kernel) ?_
    have hFc := mw_free hD hS hA
    refine va_callv (va_runV (As := [.int (hz_i 4249), .int (hz_i 4244)]) (rest := []) ⟨hx, hb, hml, hown, hts⟩ (k_bigCopy l D _ om R C z A_27 4249 4244 _ hw) (cwV 2 hts gX12_settle_X12_bigCopy rfl rfl rfl (by decide +kernel) ⟨Nat.le_of_ble_eq_true rfl, Nat.le_of_ble_eq_true rfl⟩) ⟨hm_blind, va_recv hK hP (ci := 12) (q0 := 0) rfl rfl, hm_pre hP hK hD hE⟩ rfl rfl hl.1 rfl (lv_room (Nat.le_of_ble_eq_true rfl)) dX12_settle_51 ⟨Nat.le_of_ble_eq_true rfl, Nat.le_of_ble_eq_true rfl⟩) hS (fun q _ h => hFc q h) hFc (fun u t H1 locs ht hvm hw hB hz1 hk1 hS => ?_)
    obtain ⟨r_28, _, A_29⟩ := u
    obtain ⟨hP, hK1, hD1⟩ := hB
    rw [ht] at hP
    have hD := hD1.weaken (fun k q _ h => hFc q.1 h)
    have hP : va_P D vwCl (mw_w om R C z A_29) H1 := hP
    have hD : va_D Ad (mw_w om R C z A_29) := hD
    generalize H1 = H at hP hS ⊢
    refine W.eq (g2 := F0 m 54 ls []) rfl ?_
    exact L54 A_29 hw H locs ls hP hD hS (lv_sub hl [0, 1] rfl)
  · have hw := hw.2 c_24
    refine lv_aload_n hx hb dX12_settle_10 rfl (lv_at hl 0 rfl) ?_
    refine lv_iload_n hx hb dX12_settle_11 rfl (lv_at hl 1 rfl) ?_
    refine lv_lconst (v := hz_l 0) hx hb dX12_settle_12 (by decide +kernel) ?_
    have hFc := mw_free hD hS hA
    refine va_callv (va_runV (As := [.int (hz_i y1), .long (hz_l 0)]) (rest := []) ⟨hx, hb, hml, hown, hts⟩ (k_bigSet l D _ om R C z A y1 0 _ hw) (cwV 2 hts gX12_settle_X12_bigSet rfl rfl rfl (by decide +kernel) ⟨Nat.le_of_ble_eq_true rfl, Nat.le_of_ble_eq_true rfl⟩) ⟨hm_blind, va_recv hK hP (ci := 12) (q0 := 0) rfl rfl, hm_pre hP hK hD hE⟩ rfl rfl hl.1 rfl (lv_room (Nat.le_of_ble_eq_true rfl)) dX12_settle_13 ⟨Nat.le_of_ble_eq_true rfl, Nat.le_of_ble_eq_true rfl⟩) hS (fun q _ h => hFc q h) hFc (fun u t H1 locs ht hvm hw hB hz1 hk1 hS => ?_)
    obtain ⟨r_30, _, A_31⟩ := u
    obtain ⟨hP, hK1, hD1⟩ := hB
    rw [ht] at hP
    have hD := hD1.weaken (fun k q _ h => hFc q.1 h)
    have hP : va_P D vwCl (mw_w om R C z A_31) H1 := hP
    have hD : va_D Ad (mw_w om R C z A_31) := hD
    generalize H1 = H at hP hS ⊢
    refine W.eq (g2 := F0 m 16 ls []) rfl ?_
    refine lv_aload_n hx hb dX12_settle_16 rfl (lv_at hl 0 rfl) ?_
    refine lv_iload_n hx hb dX12_settle_17 rfl (lv_at hl 1 rfl) ?_
    refine lv_iconst (v := hz_i 1) hx hb dX12_settle_18 (by decide +kernel) ?_
    refine hz_iadd hx hb dX12_settle_19 ?_
    refine lv_lconst (v := hz_l 1) hx hb dX12_settle_20 (by decide +kernel) ?_
    have hFc := mw_free hD hS hA
    refine va_callv (va_runV (As := [.int (hz_i (y1 + 1)), .long (hz_l 1)]) (rest := []) ⟨hx, hb, hml, hown, hts⟩ (k_bigSet l D _ om R C z A_31 (y1 + 1) 1 _ hw) (cwV 2 hts gX12_settle_X12_bigSet rfl rfl rfl (by decide +kernel) ⟨Nat.le_of_ble_eq_true rfl, Nat.le_of_ble_eq_true rfl⟩) ⟨hm_blind, va_recv hK hP (ci := 12) (q0 := 0) rfl rfl, hm_pre hP hK hD hE⟩ rfl rfl hl.1 rfl (lv_room (Nat.le_of_ble_eq_true rfl)) dX12_settle_21 ⟨Nat.le_of_ble_eq_true rfl, Nat.le_of_ble_eq_true rfl⟩) hS (fun q _ h => hFc q h) hFc (fun u t H1 locs ht hvm hw hB hz1 hk1 hS => ?_)
    obtain ⟨r_32, _, A_33⟩ := u
    obtain ⟨hP, hK1, hD1⟩ := hB
    rw [ht] at hP
    have hD := hD1.weaken (fun k q _ h => hFc q.1 h)
    have hP : va_P D vwCl (mw_w om R C z A_33) H1 := hP
    have hD : va_D Ad (mw_w om R C z A_33) := hD
    generalize H1 = H at hP hS ⊢
    refine W.eq (g2 := F0 m 24 ls []) rfl ?_
    subst hQQ
    subst hAe
    exact W.vret hx hb hr (fun t ht hW => ⟨⟨(0, z, A_33), rfl, hw, by rw [ht]; exact hP, va_K.moved hW.alike hK, hD⟩, hS.F ht⟩) hS.2.2 dX12_settle_24

noncomputable def wp_setFraction (z : Nat → Int) (A : Nat → Nat → Int) (y1 : Int) (y2 : Int) (y4 : Int) (Q : (Nat → Nat → Int) → Prop) : Prop := wp_bigSet z A 4243 y2 (fun A_2 => wp_bigSet z A_2 4244 y4 (fun A_4 => wp_settle z A_4 y1 (fun A_6 => Q A_6)))
set_option maxHeartbeats 4000000 in
set_option maxRecDepth 100000 in
theorem k_setFraction (l : Launch) (D : va_G) (sz : Nat) (om : Nat) (R : Nat → Nat) (C : Nat → ClassId) (z : Nat → Int) (A : Nat → Nat → Int) (y1 : Int) (y2 : Int) (y4 : Int) (Q : (Nat → Nat → Int) → Prop) (hw : wp_setFraction z A y1 y2 y4 Q) : Met l yX12_setFraction wsX12_setFraction ({ frames := 6, cells := 0, slots := 0, locals := 150 } : Room) (va_Pc [.ref om, .int (hz_i y1), .long (hz_l y2), .long (hz_l y4)] (hm_P D (mw_w om R C z A) (mw_t C) sz)) (va_Qv (S := Int × (Nat → Int) × (Nat → Nat → Int)) (fun u => Q u.2.2) (fun u t => hm_B D (va_A (mw_w om R C z A) sz) (mw_w om R C z u.2.2) (mw_t C) t) (va_A (mw_w om R C z A) sz)) 0 0 (va_A (mw_w om R C z A) sz) := by
  refine Met.ofW (cc := cX12_setFraction) (maxL := 6) (ret := none) (by decide) rfl ?_
  intro p e s m args below meth c s₁ B hml hv
  obtain ⟨rfl, hsz, hP, hK, hD0, hE⟩ := hv
  have hx := B.exec
  have hb := B.bytes
  have hr := B.returns
  have hts := atoms_spec (ws := wsX12_setFraction) B.pre
  have hown : s.vm.findClass RX12 = some m.cls := findClass_of_methodNamed B.named
  have hlocks := B.notSynchronized
  subst hsz
  have hD := hD0.self (sz := s.heap.size)
  generalize hAe : va_A (mw_w om R C z A) s.heap.size = Ad at hD ⊢
  have hA : ∀ q : Nat, s.heap.size ≤ q → Ad q := fun q h => by rw [← hAe]; exact Or.inr h
  have hS : va_S Ad s.heap s.heap [] := va_S.rf
  have hl := lv_entry ([.ref om, .int (hz_i y1), .long (hz_l y2), .long (hz_l y4)]) (n := 6) (Nat.le_of_ble_eq_true rfl)
  rw [lg_entry_eq]
  generalize (lg_sl ([.ref om, .int (hz_i y1), .long (hz_l y2), .long (hz_l y4)]) ++ List.replicate (6 - (lg_sl ([.ref om, .int (hz_i y1), .long (hz_l y2), .long (hz_l y4)])).length) Slot.unset).toArray = ls at hl ⊢
  have hl : lv_has ls 6 [(0, .ref om), (1, .int (hz_i y1)), (2, .long (hz_l y2)), (4, .long (hz_l y4))] := hl
  refine mw_Q (fun QQ hQQ => ?_)
  have hP0 := hP; have hD0 := hD; have hS0 := hS; have hl0 := hl; have hw0 := hw
  clear hP hD hS hl hw
  have hP := hP0; have hD := hD0; have hS := hS0; have hl := hl0; have hw := hw0
  obtain ⟨H, hH⟩ : ∃ H : Heap, H = s.heap := ⟨_, rfl⟩
  obtain ⟨locs, hlocs⟩ : ∃ L : List Loc, L = [] := ⟨_, rfl⟩
  rw [← hH] at hP
  have hS : va_S Ad s.heap H locs := by rw [hH, hlocs]; exact hS
  refine mw_HL hH hlocs ?_
  refine lv_aload_n hx hb dX12_setFraction_0 rfl (lv_at hl 0 rfl) ?_
  refine lv_sipush (v := hz_i 4243) hx hb dX12_setFraction_1 (by decide +kernel) ?_
  refine lv_lload_n hx hb dX12_setFraction_4 rfl (lv_at hl 2 rfl) ?_
  have hFc := mw_free hD hS hA
  refine va_callv (va_runV (As := [.int (hz_i 4243), .long (hz_l y2)]) (rest := []) ⟨hx, hb, hml, hown, hts⟩ (k_bigSet l D _ om R C z A 4243 y2 _ hw) (cwV 2 hts gX12_setFraction_X12_bigSet rfl rfl rfl (by decide +kernel) ⟨Nat.le_of_ble_eq_true rfl, Nat.le_of_ble_eq_true rfl⟩) ⟨hm_blind, va_recv hK hP (ci := 12) (q0 := 0) rfl rfl, hm_pre hP hK hD hE⟩ rfl rfl hl.1 rfl (lv_room (Nat.le_of_ble_eq_true rfl)) dX12_setFraction_5 ⟨Nat.le_of_ble_eq_true rfl, Nat.le_of_ble_eq_true rfl⟩) hS (fun q _ h => hFc q h) hFc (fun u t H1 locs ht hvm hw hB hz1 hk1 hS => ?_)
  obtain ⟨r_1, _, A_2⟩ := u
  obtain ⟨hP, hK1, hD1⟩ := hB
  rw [ht] at hP
  have hD := hD1.weaken (fun k q _ h => hFc q.1 h)
  have hP : va_P D vwCl (mw_w om R C z A_2) H1 := hP
  have hD : va_D Ad (mw_w om R C z A_2) := hD
  generalize H1 = H at hP hS ⊢
  refine W.eq (g2 := F0 m 8 ls []) rfl ?_
  refine lv_aload_n hx hb dX12_setFraction_8 rfl (lv_at hl 0 rfl) ?_
  refine lv_sipush (v := hz_i 4244) hx hb dX12_setFraction_9 (by decide +kernel) ?_
  refine lv_lload hx hb dX12_setFraction_12 (lv_at hl 3 rfl) ?_
  have hFc := mw_free hD hS hA
  refine va_callv (va_runV (As := [.int (hz_i 4244), .long (hz_l y4)]) (rest := []) ⟨hx, hb, hml, hown, hts⟩ (k_bigSet l D _ om R C z A_2 4244 y4 _ hw) (cwV 2 hts gX12_setFraction_X12_bigSet rfl rfl rfl (by decide +kernel) ⟨Nat.le_of_ble_eq_true rfl, Nat.le_of_ble_eq_true rfl⟩) ⟨hm_blind, va_recv hK hP (ci := 12) (q0 := 0) rfl rfl, hm_pre hP hK hD hE⟩ rfl rfl hl.1 rfl (lv_room (Nat.le_of_ble_eq_true rfl)) dX12_setFraction_14 ⟨Nat.le_of_ble_eq_true rfl, Nat.le_of_ble_eq_true rfl⟩) hS (fun q _ h => hFc q h) hFc (fun u t H1 locs ht hvm hw hB hz1 hk1 hS => ?_)
  obtain ⟨r_3, _, A_4⟩ := u
  obtain ⟨hP, hK1, hD1⟩ := hB
  rw [ht] at hP
  have hD := hD1.weaken (fun k q _ h => hFc q.1 h)
  have hP : va_P D vwCl (mw_w om R C z A_4) H1 := hP
  have hD : va_D Ad (mw_w om R C z A_4) := hD
  generalize H1 = H at hP hS ⊢
  refine W.eq (g2 := F0 m 17 ls []) rfl ?_
  refine lv_aload_n hx hb dX12_setFraction_17 rfl (lv_at hl 0 rfl) ?_
  refine lv_iload_n hx hb dX12_setFraction_18 rfl (lv_at hl 1 rfl) ?_
  have hFc := mw_free hD hS hA
  refine va_callv (va_runV (As := [.int (hz_i y1)]) (rest := []) ⟨hx, hb, hml, hown, hts⟩ (k_settle l D _ om R C z A_4 y1 _ hw) (cwV 1 hts gX12_setFraction_X12_settle rfl rfl rfl (by decide +kernel) ⟨Nat.le_of_ble_eq_true rfl, Nat.le_of_ble_eq_true rfl⟩) ⟨hm_blind, va_recv hK hP (ci := 12) (q0 := 0) rfl rfl, hm_pre hP hK hD hE⟩ rfl rfl hl.1 rfl (lv_room (Nat.le_of_ble_eq_true rfl)) dX12_setFraction_19 ⟨Nat.le_of_ble_eq_true rfl, Nat.le_of_ble_eq_true rfl⟩) hS (fun q _ h => hFc q h) hFc (fun u t H1 locs ht hvm hw hB hz1 hk1 hS => ?_)
  obtain ⟨r_5, _, A_6⟩ := u
  obtain ⟨hP, hK1, hD1⟩ := hB
  rw [ht] at hP
  have hD := hD1.weaken (fun k q _ h => hFc q.1 h)
  have hP : va_P D vwCl (mw_w om R C z A_6) H1 := hP
  have hD : va_D Ad (mw_w om R C z A_6) := hD
  generalize H1 = H at hP hS ⊢
  refine W.eq (g2 := F0 m 22 ls []) rfl ?_
  subst hQQ
  subst hAe
  exact W.vret hx hb hr (fun t ht hW => ⟨⟨(0, z, A_6), rfl, hw, by rw [ht]; exact hP, va_K.moved hW.alike hK, hD⟩, hS.F ht⟩) hS.2.2 dX12_setFraction_22

noncomputable def wp_addFraction (z : Nat → Int) (A : Nat → Nat → Int) (y1 : Int) (y2 : Int) (Q : (Nat → Nat → Int) → Prop) : Prop := wp_bigProduct z A 4243 y1 (y2 + 1) (fun A_2 => wp_bigProduct z A_2 4245 y2 (y1 + 1) (fun A_4 => wp_bigAdd z A_4 4243 4245 0 (fun A_6 => wp_bigProduct z A_6 4244 (y1 + 1) (y2 + 1) (fun A_8 => wp_settle z A_8 y1 (fun A_10 => Q A_10)))))
set_option maxHeartbeats 4000000 in
set_option maxRecDepth 100000 in
theorem k_addFraction (l : Launch) (D : va_G) (sz : Nat) (om : Nat) (R : Nat → Nat) (C : Nat → ClassId) (z : Nat → Int) (A : Nat → Nat → Int) (y1 : Int) (y2 : Int) (Q : (Nat → Nat → Int) → Prop) (hw : wp_addFraction z A y1 y2 Q) : Met l yX12_addFraction wsX12_addFraction ({ frames := 6, cells := 0, slots := 0, locals := 150 } : Room) (va_Pc [.ref om, .int (hz_i y1), .int (hz_i y2)] (hm_P D (mw_w om R C z A) (mw_t C) sz)) (va_Qv (S := Int × (Nat → Int) × (Nat → Nat → Int)) (fun u => Q u.2.2) (fun u t => hm_B D (va_A (mw_w om R C z A) sz) (mw_w om R C z u.2.2) (mw_t C) t) (va_A (mw_w om R C z A) sz)) 0 0 (va_A (mw_w om R C z A) sz) := by
  refine Met.ofW (cc := cX12_addFraction) (maxL := 3) (ret := none) (by decide) rfl ?_
  intro p e s m args below meth c s₁ B hml hv
  obtain ⟨rfl, hsz, hP, hK, hD0, hE⟩ := hv
  have hx := B.exec
  have hb := B.bytes
  have hr := B.returns
  have hts := atoms_spec (ws := wsX12_addFraction) B.pre
  have hown : s.vm.findClass RX12 = some m.cls := findClass_of_methodNamed B.named
  have hlocks := B.notSynchronized
  subst hsz
  have hD := hD0.self (sz := s.heap.size)
  generalize hAe : va_A (mw_w om R C z A) s.heap.size = Ad at hD ⊢
  have hA : ∀ q : Nat, s.heap.size ≤ q → Ad q := fun q h => by rw [← hAe]; exact Or.inr h
  have hS : va_S Ad s.heap s.heap [] := va_S.rf
  have hl := lv_entry ([.ref om, .int (hz_i y1), .int (hz_i y2)]) (n := 3) (Nat.le_of_ble_eq_true rfl)
  rw [lg_entry_eq]
  generalize (lg_sl ([.ref om, .int (hz_i y1), .int (hz_i y2)]) ++ List.replicate (3 - (lg_sl ([.ref om, .int (hz_i y1), .int (hz_i y2)])).length) Slot.unset).toArray = ls at hl ⊢
  have hl : lv_has ls 3 [(0, .ref om), (1, .int (hz_i y1)), (2, .int (hz_i y2))] := hl
  refine mw_Q (fun QQ hQQ => ?_)
  have hP0 := hP; have hD0 := hD; have hS0 := hS; have hl0 := hl; have hw0 := hw
  clear hP hD hS hl hw
  have hP := hP0; have hD := hD0; have hS := hS0; have hl := hl0; have hw := hw0
  obtain ⟨H, hH⟩ : ∃ H : Heap, H = s.heap := ⟨_, rfl⟩
  obtain ⟨locs, hlocs⟩ : ∃ L : List Loc, L = [] := ⟨_, rfl⟩
  rw [← hH] at hP
  have hS : va_S Ad s.heap H locs := by rw [hH, hlocs]; exact hS
  refine mw_HL hH hlocs ?_
  refine lv_aload_n hx hb dX12_addFraction_0 rfl (lv_at hl 0 rfl) ?_
  refine lv_sipush (v := hz_i 4243) hx hb dX12_addFraction_1 (by decide +kernel) ?_
  refine lv_iload_n hx hb dX12_addFraction_4 rfl (lv_at hl 1 rfl) ?_
  refine lv_iload_n hx hb dX12_addFraction_5 rfl (lv_at hl 2 rfl) ?_
  refine lv_iconst (v := hz_i 1) hx hb dX12_addFraction_6 (by decide +kernel) ?_
  refine hz_iadd hx hb dX12_addFraction_7 ?_
  have hFc := mw_free hD hS hA
  refine va_callv (va_runV (As := [.int (hz_i 4243), .int (hz_i y1), .int (hz_i (y2 + 1))]) (rest := []) ⟨hx, hb, hml, hown, hts⟩ (k_bigProduct l D _ om R C z A 4243 y1 (y2 + 1) _ hw) (cwV 3 hts gX12_addFraction_X12_bigProduct rfl rfl rfl (by decide +kernel) ⟨Nat.le_of_ble_eq_true rfl, Nat.le_of_ble_eq_true rfl⟩) ⟨hm_blind, va_recv hK hP (ci := 12) (q0 := 0) rfl rfl, hm_pre hP hK hD hE⟩ rfl rfl hl.1 rfl (lv_room (Nat.le_of_ble_eq_true rfl)) dX12_addFraction_8 ⟨Nat.le_of_ble_eq_true rfl, Nat.le_of_ble_eq_true rfl⟩) hS (fun q _ h => hFc q h) hFc (fun u t H1 locs ht hvm hw hB hz1 hk1 hS => ?_)
  obtain ⟨r_1, _, A_2⟩ := u
  obtain ⟨hP, hK1, hD1⟩ := hB
  rw [ht] at hP
  have hD := hD1.weaken (fun k q _ h => hFc q.1 h)
  have hP : va_P D vwCl (mw_w om R C z A_2) H1 := hP
  have hD : va_D Ad (mw_w om R C z A_2) := hD
  generalize H1 = H at hP hS ⊢
  refine W.eq (g2 := F0 m 11 ls []) rfl ?_
  refine lv_aload_n hx hb dX12_addFraction_11 rfl (lv_at hl 0 rfl) ?_
  refine lv_sipush (v := hz_i 4245) hx hb dX12_addFraction_12 (by decide +kernel) ?_
  refine lv_iload_n hx hb dX12_addFraction_15 rfl (lv_at hl 2 rfl) ?_
  refine lv_iload_n hx hb dX12_addFraction_16 rfl (lv_at hl 1 rfl) ?_
  refine lv_iconst (v := hz_i 1) hx hb dX12_addFraction_17 (by decide +kernel) ?_
  refine hz_iadd hx hb dX12_addFraction_18 ?_
  have hFc := mw_free hD hS hA
  refine va_callv (va_runV (As := [.int (hz_i 4245), .int (hz_i y2), .int (hz_i (y1 + 1))]) (rest := []) ⟨hx, hb, hml, hown, hts⟩ (k_bigProduct l D _ om R C z A_2 4245 y2 (y1 + 1) _ hw) (cwV 3 hts gX12_addFraction_X12_bigProduct rfl rfl rfl (by decide +kernel) ⟨Nat.le_of_ble_eq_true rfl, Nat.le_of_ble_eq_true rfl⟩) ⟨hm_blind, va_recv hK hP (ci := 12) (q0 := 0) rfl rfl, hm_pre hP hK hD hE⟩ rfl rfl hl.1 rfl (lv_room (Nat.le_of_ble_eq_true rfl)) dX12_addFraction_19 ⟨Nat.le_of_ble_eq_true rfl, Nat.le_of_ble_eq_true rfl⟩) hS (fun q _ h => hFc q h) hFc (fun u t H1 locs ht hvm hw hB hz1 hk1 hS => ?_)
  obtain ⟨r_3, _, A_4⟩ := u
  obtain ⟨hP, hK1, hD1⟩ := hB
  rw [ht] at hP
  have hD := hD1.weaken (fun k q _ h => hFc q.1 h)
  have hP : va_P D vwCl (mw_w om R C z A_4) H1 := hP
  have hD : va_D Ad (mw_w om R C z A_4) := hD
  generalize H1 = H at hP hS ⊢
  refine W.eq (g2 := F0 m 22 ls []) rfl ?_
  refine lv_aload_n hx hb dX12_addFraction_22 rfl (lv_at hl 0 rfl) ?_
  refine lv_sipush (v := hz_i 4243) hx hb dX12_addFraction_23 (by decide +kernel) ?_
  refine lv_sipush (v := hz_i 4245) hx hb dX12_addFraction_26 (by decide +kernel) ?_
  refine lv_iconst (v := hz_i 0) hx hb dX12_addFraction_29 (by decide +kernel) ?_
  have hFc := mw_free hD hS hA
  refine va_callv (va_runV (As := [.int (hz_i 4243), .int (hz_i 4245), .int (hz_i 0)]) (rest := []) ⟨hx, hb, hml, hown, hts⟩ (k_bigAdd l D _ om R C z A_4 4243 4245 0 _ hw) (cwV 3 hts gX12_addFraction_X12_bigAdd rfl rfl rfl (by decide +kernel) ⟨Nat.le_of_ble_eq_true rfl, Nat.le_of_ble_eq_true rfl⟩) ⟨hm_blind, va_recv hK hP (ci := 12) (q0 := 0) rfl rfl, hm_pre hP hK hD hE⟩ rfl rfl hl.1 rfl (lv_room (Nat.le_of_ble_eq_true rfl)) dX12_addFraction_30 ⟨Nat.le_of_ble_eq_true rfl, Nat.le_of_ble_eq_true rfl⟩) hS (fun q _ h => hFc q h) hFc (fun u t H1 locs ht hvm hw hB hz1 hk1 hS => ?_)
  obtain ⟨r_5, _, A_6⟩ := u
  obtain ⟨hP, hK1, hD1⟩ := hB
  rw [ht] at hP
  have hD := hD1.weaken (fun k q _ h => hFc q.1 h)
  have hP : va_P D vwCl (mw_w om R C z A_6) H1 := hP
  have hD : va_D Ad (mw_w om R C z A_6) := hD
  generalize H1 = H at hP hS ⊢
  refine W.eq (g2 := F0 m 33 ls []) rfl ?_
  refine lv_aload_n hx hb dX12_addFraction_33 rfl (lv_at hl 0 rfl) ?_
  refine lv_sipush (v := hz_i 4244) hx hb dX12_addFraction_34 (by decide +kernel) ?_
  refine lv_iload_n hx hb dX12_addFraction_37 rfl (lv_at hl 1 rfl) ?_
  refine lv_iconst (v := hz_i 1) hx hb dX12_addFraction_38 (by decide +kernel) ?_
  refine hz_iadd hx hb dX12_addFraction_39 ?_
  refine lv_iload_n hx hb dX12_addFraction_40 rfl (lv_at hl 2 rfl) ?_
  refine lv_iconst (v := hz_i 1) hx hb dX12_addFraction_41 (by decide +kernel) ?_
  refine hz_iadd hx hb dX12_addFraction_42 ?_
  have hFc := mw_free hD hS hA
  refine va_callv (va_runV (As := [.int (hz_i 4244), .int (hz_i (y1 + 1)), .int (hz_i (y2 + 1))]) (rest := []) ⟨hx, hb, hml, hown, hts⟩ (k_bigProduct l D _ om R C z A_6 4244 (y1 + 1) (y2 + 1) _ hw) (cwV 3 hts gX12_addFraction_X12_bigProduct rfl rfl rfl (by decide +kernel) ⟨Nat.le_of_ble_eq_true rfl, Nat.le_of_ble_eq_true rfl⟩) ⟨hm_blind, va_recv hK hP (ci := 12) (q0 := 0) rfl rfl, hm_pre hP hK hD hE⟩ rfl rfl hl.1 rfl (lv_room (Nat.le_of_ble_eq_true rfl)) dX12_addFraction_43 ⟨Nat.le_of_ble_eq_true rfl, Nat.le_of_ble_eq_true rfl⟩) hS (fun q _ h => hFc q h) hFc (fun u t H1 locs ht hvm hw hB hz1 hk1 hS => ?_)
  obtain ⟨r_7, _, A_8⟩ := u
  obtain ⟨hP, hK1, hD1⟩ := hB
  rw [ht] at hP
  have hD := hD1.weaken (fun k q _ h => hFc q.1 h)
  have hP : va_P D vwCl (mw_w om R C z A_8) H1 := hP
  have hD : va_D Ad (mw_w om R C z A_8) := hD
  generalize H1 = H at hP hS ⊢
  refine W.eq (g2 := F0 m 46 ls []) rfl ?_
  refine lv_aload_n hx hb dX12_addFraction_46 rfl (lv_at hl 0 rfl) ?_
  refine lv_iload_n hx hb dX12_addFraction_47 rfl (lv_at hl 1 rfl) ?_
  have hFc := mw_free hD hS hA
  refine va_callv (va_runV (As := [.int (hz_i y1)]) (rest := []) ⟨hx, hb, hml, hown, hts⟩ (k_settle l D _ om R C z A_8 y1 _ hw) (cwV 1 hts gX12_addFraction_X12_settle rfl rfl rfl (by decide +kernel) ⟨Nat.le_of_ble_eq_true rfl, Nat.le_of_ble_eq_true rfl⟩) ⟨hm_blind, va_recv hK hP (ci := 12) (q0 := 0) rfl rfl, hm_pre hP hK hD hE⟩ rfl rfl hl.1 rfl (lv_room (Nat.le_of_ble_eq_true rfl)) dX12_addFraction_48 ⟨Nat.le_of_ble_eq_true rfl, Nat.le_of_ble_eq_true rfl⟩) hS (fun q _ h => hFc q h) hFc (fun u t H1 locs ht hvm hw hB hz1 hk1 hS => ?_)
  obtain ⟨r_9, _, A_10⟩ := u
  obtain ⟨hP, hK1, hD1⟩ := hB
  rw [ht] at hP
  have hD := hD1.weaken (fun k q _ h => hFc q.1 h)
  have hP : va_P D vwCl (mw_w om R C z A_10) H1 := hP
  have hD : va_D Ad (mw_w om R C z A_10) := hD
  generalize H1 = H at hP hS ⊢
  refine W.eq (g2 := F0 m 51 ls []) rfl ?_
  subst hQQ
  subst hAe
  exact W.vret hx hb hr (fun t ht hW => ⟨⟨(0, z, A_10), rfl, hw, by rw [ht]; exact hP, va_K.moved hW.alike hK, hD⟩, hS.F ht⟩) hS.2.2 dX12_addFraction_51

noncomputable def wp_times (z : Nat → Int) (A : Nat → Nat → Int) (y1 : Int) (y2 : Int) (y4 : Int) (Q : (Nat → Nat → Int) → Prop) : Prop := wp_bigSet z A 4249 y2 (fun A_2 => wp_bigProduct z A_2 4243 y1 4249 (fun A_4 => wp_bigSet z A_4 4249 y4 (fun A_6 => wp_bigProduct z A_6 4244 (y1 + 1) 4249 (fun A_8 => wp_settle z A_8 y1 (fun A_10 => Q A_10)))))
set_option maxHeartbeats 4000000 in
set_option maxRecDepth 100000 in
theorem k_times (l : Launch) (D : va_G) (sz : Nat) (om : Nat) (R : Nat → Nat) (C : Nat → ClassId) (z : Nat → Int) (A : Nat → Nat → Int) (y1 : Int) (y2 : Int) (y4 : Int) (Q : (Nat → Nat → Int) → Prop) (hw : wp_times z A y1 y2 y4 Q) : Met l yX12_times wsX12_times ({ frames := 6, cells := 0, slots := 0, locals := 150 } : Room) (va_Pc [.ref om, .int (hz_i y1), .long (hz_l y2), .long (hz_l y4)] (hm_P D (mw_w om R C z A) (mw_t C) sz)) (va_Qv (S := Int × (Nat → Int) × (Nat → Nat → Int)) (fun u => Q u.2.2) (fun u t => hm_B D (va_A (mw_w om R C z A) sz) (mw_w om R C z u.2.2) (mw_t C) t) (va_A (mw_w om R C z A) sz)) 0 0 (va_A (mw_w om R C z A) sz) := by
  refine Met.ofW (cc := cX12_times) (maxL := 6) (ret := none) (by decide) rfl ?_
  intro p e s m args below meth c s₁ B hml hv
  obtain ⟨rfl, hsz, hP, hK, hD0, hE⟩ := hv
  have hx := B.exec
  have hb := B.bytes
  have hr := B.returns
  have hts := atoms_spec (ws := wsX12_times) B.pre
  have hown : s.vm.findClass RX12 = some m.cls := findClass_of_methodNamed B.named
  have hlocks := B.notSynchronized
  subst hsz
  have hD := hD0.self (sz := s.heap.size)
  generalize hAe : va_A (mw_w om R C z A) s.heap.size = Ad at hD ⊢
  have hA : ∀ q : Nat, s.heap.size ≤ q → Ad q := fun q h => by rw [← hAe]; exact Or.inr h
  have hS : va_S Ad s.heap s.heap [] := va_S.rf
  have hl := lv_entry ([.ref om, .int (hz_i y1), .long (hz_l y2), .long (hz_l y4)]) (n := 6) (Nat.le_of_ble_eq_true rfl)
  rw [lg_entry_eq]
  generalize (lg_sl ([.ref om, .int (hz_i y1), .long (hz_l y2), .long (hz_l y4)]) ++ List.replicate (6 - (lg_sl ([.ref om, .int (hz_i y1), .long (hz_l y2), .long (hz_l y4)])).length) Slot.unset).toArray = ls at hl ⊢
  have hl : lv_has ls 6 [(0, .ref om), (1, .int (hz_i y1)), (2, .long (hz_l y2)), (4, .long (hz_l y4))] := hl
  refine mw_Q (fun QQ hQQ => ?_)
  have hP0 := hP; have hD0 := hD; have hS0 := hS; have hl0 := hl; have hw0 := hw
  clear hP hD hS hl hw
  have hP := hP0; have hD := hD0; have hS := hS0; have hl := hl0; have hw := hw0
  obtain ⟨H, hH⟩ : ∃ H : Heap, H = s.heap := ⟨_, rfl⟩
  obtain ⟨locs, hlocs⟩ : ∃ L : List Loc, L = [] := ⟨_, rfl⟩
  rw [← hH] at hP
  have hS : va_S Ad s.heap H locs := by rw [hH, hlocs]; exact hS
  refine mw_HL hH hlocs ?_
  refine lv_aload_n hx hb dX12_times_0 rfl (lv_at hl 0 rfl) ?_
  refine lv_sipush (v := hz_i 4249) hx hb dX12_times_1 (by decide +kernel) ?_
  refine lv_lload_n hx hb dX12_times_4 rfl (lv_at hl 2 rfl) ?_
  have hFc := mw_free hD hS hA
  refine va_callv (va_runV (As := [.int (hz_i 4249), .long (hz_l y2)]) (rest := []) ⟨hx, hb, hml, hown, hts⟩ (k_bigSet l D _ om R C z A 4249 y2 _ hw) (cwV 2 hts gX12_times_X12_bigSet rfl rfl rfl (by decide +kernel) ⟨Nat.le_of_ble_eq_true rfl, Nat.le_of_ble_eq_true rfl⟩) ⟨hm_blind, va_recv hK hP (ci := 12) (q0 := 0) rfl rfl, hm_pre hP hK hD hE⟩ rfl rfl hl.1 rfl (lv_room (Nat.le_of_ble_eq_true rfl)) dX12_times_5 ⟨Nat.le_of_ble_eq_true rfl, Nat.le_of_ble_eq_true rfl⟩) hS (fun q _ h => hFc q h) hFc (fun u t H1 locs ht hvm hw hB hz1 hk1 hS => ?_)
  obtain ⟨r_1, _, A_2⟩ := u
  obtain ⟨hP, hK1, hD1⟩ := hB
  rw [ht] at hP
  have hD := hD1.weaken (fun k q _ h => hFc q.1 h)
  have hP : va_P D vwCl (mw_w om R C z A_2) H1 := hP
  have hD : va_D Ad (mw_w om R C z A_2) := hD
  generalize H1 = H at hP hS ⊢
  refine W.eq (g2 := F0 m 8 ls []) rfl ?_
  refine lv_aload_n hx hb dX12_times_8 rfl (lv_at hl 0 rfl) ?_
  refine lv_sipush (v := hz_i 4243) hx hb dX12_times_9 (by decide +kernel) ?_
  refine lv_iload_n hx hb dX12_times_12 rfl (lv_at hl 1 rfl) ?_
  refine lv_sipush (v := hz_i 4249) hx hb dX12_times_13 (by decide +kernel) ?_
  have hFc := mw_free hD hS hA
  refine va_callv (va_runV (As := [.int (hz_i 4243), .int (hz_i y1), .int (hz_i 4249)]) (rest := []) ⟨hx, hb, hml, hown, hts⟩ (k_bigProduct l D _ om R C z A_2 4243 y1 4249 _ hw) (cwV 3 hts gX12_times_X12_bigProduct rfl rfl rfl (by decide +kernel) ⟨Nat.le_of_ble_eq_true rfl, Nat.le_of_ble_eq_true rfl⟩) ⟨hm_blind, va_recv hK hP (ci := 12) (q0 := 0) rfl rfl, hm_pre hP hK hD hE⟩ rfl rfl hl.1 rfl (lv_room (Nat.le_of_ble_eq_true rfl)) dX12_times_16 ⟨Nat.le_of_ble_eq_true rfl, Nat.le_of_ble_eq_true rfl⟩) hS (fun q _ h => hFc q h) hFc (fun u t H1 locs ht hvm hw hB hz1 hk1 hS => ?_)
  obtain ⟨r_3, _, A_4⟩ := u
  obtain ⟨hP, hK1, hD1⟩ := hB
  rw [ht] at hP
  have hD := hD1.weaken (fun k q _ h => hFc q.1 h)
  have hP : va_P D vwCl (mw_w om R C z A_4) H1 := hP
  have hD : va_D Ad (mw_w om R C z A_4) := hD
  generalize H1 = H at hP hS ⊢
  refine W.eq (g2 := F0 m 19 ls []) rfl ?_
  refine lv_aload_n hx hb dX12_times_19 rfl (lv_at hl 0 rfl) ?_
  refine lv_sipush (v := hz_i 4249) hx hb dX12_times_20 (by decide +kernel) ?_
  refine lv_lload hx hb dX12_times_23 (lv_at hl 3 rfl) ?_
  have hFc := mw_free hD hS hA
  refine va_callv (va_runV (As := [.int (hz_i 4249), .long (hz_l y4)]) (rest := []) ⟨hx, hb, hml, hown, hts⟩ (k_bigSet l D _ om R C z A_4 4249 y4 _ hw) (cwV 2 hts gX12_times_X12_bigSet rfl rfl rfl (by decide +kernel) ⟨Nat.le_of_ble_eq_true rfl, Nat.le_of_ble_eq_true rfl⟩) ⟨hm_blind, va_recv hK hP (ci := 12) (q0 := 0) rfl rfl, hm_pre hP hK hD hE⟩ rfl rfl hl.1 rfl (lv_room (Nat.le_of_ble_eq_true rfl)) dX12_times_25 ⟨Nat.le_of_ble_eq_true rfl, Nat.le_of_ble_eq_true rfl⟩) hS (fun q _ h => hFc q h) hFc (fun u t H1 locs ht hvm hw hB hz1 hk1 hS => ?_)
  obtain ⟨r_5, _, A_6⟩ := u
  obtain ⟨hP, hK1, hD1⟩ := hB
  rw [ht] at hP
  have hD := hD1.weaken (fun k q _ h => hFc q.1 h)
  have hP : va_P D vwCl (mw_w om R C z A_6) H1 := hP
  have hD : va_D Ad (mw_w om R C z A_6) := hD
  generalize H1 = H at hP hS ⊢
  refine W.eq (g2 := F0 m 28 ls []) rfl ?_
  refine lv_aload_n hx hb dX12_times_28 rfl (lv_at hl 0 rfl) ?_
  refine lv_sipush (v := hz_i 4244) hx hb dX12_times_29 (by decide +kernel) ?_
  refine lv_iload_n hx hb dX12_times_32 rfl (lv_at hl 1 rfl) ?_
  refine lv_iconst (v := hz_i 1) hx hb dX12_times_33 (by decide +kernel) ?_
  refine hz_iadd hx hb dX12_times_34 ?_
  refine lv_sipush (v := hz_i 4249) hx hb dX12_times_35 (by decide +kernel) ?_
  have hFc := mw_free hD hS hA
  refine va_callv (va_runV (As := [.int (hz_i 4244), .int (hz_i (y1 + 1)), .int (hz_i 4249)]) (rest := []) ⟨hx, hb, hml, hown, hts⟩ (k_bigProduct l D _ om R C z A_6 4244 (y1 + 1) 4249 _ hw) (cwV 3 hts gX12_times_X12_bigProduct rfl rfl rfl (by decide +kernel) ⟨Nat.le_of_ble_eq_true rfl, Nat.le_of_ble_eq_true rfl⟩) ⟨hm_blind, va_recv hK hP (ci := 12) (q0 := 0) rfl rfl, hm_pre hP hK hD hE⟩ rfl rfl hl.1 rfl (lv_room (Nat.le_of_ble_eq_true rfl)) dX12_times_38 ⟨Nat.le_of_ble_eq_true rfl, Nat.le_of_ble_eq_true rfl⟩) hS (fun q _ h => hFc q h) hFc (fun u t H1 locs ht hvm hw hB hz1 hk1 hS => ?_)
  obtain ⟨r_7, _, A_8⟩ := u
  obtain ⟨hP, hK1, hD1⟩ := hB
  rw [ht] at hP
  have hD := hD1.weaken (fun k q _ h => hFc q.1 h)
  have hP : va_P D vwCl (mw_w om R C z A_8) H1 := hP
  have hD : va_D Ad (mw_w om R C z A_8) := hD
  generalize H1 = H at hP hS ⊢
  refine W.eq (g2 := F0 m 41 ls []) rfl ?_
  refine lv_aload_n hx hb dX12_times_41 rfl (lv_at hl 0 rfl) ?_
  refine lv_iload_n hx hb dX12_times_42 rfl (lv_at hl 1 rfl) ?_
  have hFc := mw_free hD hS hA
  refine va_callv (va_runV (As := [.int (hz_i y1)]) (rest := []) ⟨hx, hb, hml, hown, hts⟩ (k_settle l D _ om R C z A_8 y1 _ hw) (cwV 1 hts gX12_times_X12_settle rfl rfl rfl (by decide +kernel) ⟨Nat.le_of_ble_eq_true rfl, Nat.le_of_ble_eq_true rfl⟩) ⟨hm_blind, va_recv hK hP (ci := 12) (q0 := 0) rfl rfl, hm_pre hP hK hD hE⟩ rfl rfl hl.1 rfl (lv_room (Nat.le_of_ble_eq_true rfl)) dX12_times_43 ⟨Nat.le_of_ble_eq_true rfl, Nat.le_of_ble_eq_true rfl⟩) hS (fun q _ h => hFc q h) hFc (fun u t H1 locs ht hvm hw hB hz1 hk1 hS => ?_)
  obtain ⟨r_9, _, A_10⟩ := u
  obtain ⟨hP, hK1, hD1⟩ := hB
  rw [ht] at hP
  have hD := hD1.weaken (fun k q _ h => hFc q.1 h)
  have hP : va_P D vwCl (mw_w om R C z A_10) H1 := hP
  have hD : va_D Ad (mw_w om R C z A_10) := hD
  generalize H1 = H at hP hS ⊢
  refine W.eq (g2 := F0 m 46 ls []) rfl ?_
  subst hQQ
  subst hAe
  exact W.vret hx hb hr (fun t ht hW => ⟨⟨(0, z, A_10), rfl, hw, by rw [ht]; exact hP, va_K.moved hW.alike hK, hD⟩, hS.F ht⟩) hS.2.2 dX12_times_46

noncomputable def wp_compareFractions (z : Nat → Int) (A : Nat → Nat → Int) (y1 : Int) (y2 : Int) (Q : Int → (Nat → Nat → Int) → Prop) : Prop := wp_bigProduct z A 4243 y1 (y2 + 1) (fun A_2 => wp_bigProduct z A_2 4244 y2 (y1 + 1) (fun A_4 => wp_bigCompare z A_4 4243 4244 (fun r_5 => Q r_5 A_4)))
set_option maxHeartbeats 4000000 in
set_option maxRecDepth 100000 in
theorem k_compareFractions (l : Launch) (D : va_G) (sz : Nat) (om : Nat) (R : Nat → Nat) (C : Nat → ClassId) (z : Nat → Int) (A : Nat → Nat → Int) (y1 : Int) (y2 : Int) (Q : Int → (Nat → Nat → Int) → Prop) (hw : wp_compareFractions z A y1 y2 Q) : Met l yX12_compareFractions wsX12_compareFractions ({ frames := 4, cells := 0, slots := 0, locals := 89 } : Room) (va_Pc [.ref om, .int (hz_i y1), .int (hz_i y2)] (hm_P D (mw_w om R C z A) (mw_t C) sz)) (va_Qi (S := Int × (Nat → Int) × (Nat → Nat → Int)) (fun r u => r = hz_i u.1 ∧ Q u.1 u.2.2) (fun u t => hm_B D (va_A (mw_w om R C z A) sz) (mw_w om R C z u.2.2) (mw_t C) t) (va_A (mw_w om R C z A) sz)) 0 0 (va_A (mw_w om R C z A) sz) := by
  refine Met.ofW (cc := cX12_compareFractions) (maxL := 3) (ret := (some .int)) (by decide) rfl ?_
  intro p e s m args below meth c s₁ B hml hv
  obtain ⟨rfl, hsz, hP, hK, hD0, hE⟩ := hv
  have hx := B.exec
  have hb := B.bytes
  have hr := B.returns
  have hts := atoms_spec (ws := wsX12_compareFractions) B.pre
  have hown : s.vm.findClass RX12 = some m.cls := findClass_of_methodNamed B.named
  have hlocks := B.notSynchronized
  subst hsz
  have hD := hD0.self (sz := s.heap.size)
  generalize hAe : va_A (mw_w om R C z A) s.heap.size = Ad at hD ⊢
  have hA : ∀ q : Nat, s.heap.size ≤ q → Ad q := fun q h => by rw [← hAe]; exact Or.inr h
  have hS : va_S Ad s.heap s.heap [] := va_S.rf
  have hl := lv_entry ([.ref om, .int (hz_i y1), .int (hz_i y2)]) (n := 3) (Nat.le_of_ble_eq_true rfl)
  rw [lg_entry_eq]
  generalize (lg_sl ([.ref om, .int (hz_i y1), .int (hz_i y2)]) ++ List.replicate (3 - (lg_sl ([.ref om, .int (hz_i y1), .int (hz_i y2)])).length) Slot.unset).toArray = ls at hl ⊢
  have hl : lv_has ls 3 [(0, .ref om), (1, .int (hz_i y1)), (2, .int (hz_i y2))] := hl
  refine mw_Q (fun QQ hQQ => ?_)
  have hP0 := hP; have hD0 := hD; have hS0 := hS; have hl0 := hl; have hw0 := hw
  clear hP hD hS hl hw
  have hP := hP0; have hD := hD0; have hS := hS0; have hl := hl0; have hw := hw0
  obtain ⟨H, hH⟩ : ∃ H : Heap, H = s.heap := ⟨_, rfl⟩
  obtain ⟨locs, hlocs⟩ : ∃ L : List Loc, L = [] := ⟨_, rfl⟩
  rw [← hH] at hP
  have hS : va_S Ad s.heap H locs := by rw [hH, hlocs]; exact hS
  refine mw_HL hH hlocs ?_
  refine lv_aload_n hx hb dX12_compareFractions_0 rfl (lv_at hl 0 rfl) ?_
  refine lv_sipush (v := hz_i 4243) hx hb dX12_compareFractions_1 (by decide +kernel) ?_
  refine lv_iload_n hx hb dX12_compareFractions_4 rfl (lv_at hl 1 rfl) ?_
  refine lv_iload_n hx hb dX12_compareFractions_5 rfl (lv_at hl 2 rfl) ?_
  refine lv_iconst (v := hz_i 1) hx hb dX12_compareFractions_6 (by decide +kernel) ?_
  refine hz_iadd hx hb dX12_compareFractions_7 ?_
  have hFc := mw_free hD hS hA
  refine va_callv (va_runV (As := [.int (hz_i 4243), .int (hz_i y1), .int (hz_i (y2 + 1))]) (rest := []) ⟨hx, hb, hml, hown, hts⟩ (k_bigProduct l D _ om R C z A 4243 y1 (y2 + 1) _ hw) (cwV 3 hts gX12_compareFractions_X12_bigProduct rfl rfl rfl (by decide +kernel) ⟨Nat.le_of_ble_eq_true rfl, Nat.le_of_ble_eq_true rfl⟩) ⟨hm_blind, va_recv hK hP (ci := 12) (q0 := 0) rfl rfl, hm_pre hP hK hD hE⟩ rfl rfl hl.1 rfl (lv_room (Nat.le_of_ble_eq_true rfl)) dX12_compareFractions_8 ⟨Nat.le_of_ble_eq_true rfl, Nat.le_of_ble_eq_true rfl⟩) hS (fun q _ h => hFc q h) hFc (fun u t H1 locs ht hvm hw hB hz1 hk1 hS => ?_)
  obtain ⟨r_1, _, A_2⟩ := u
  obtain ⟨hP, hK1, hD1⟩ := hB
  rw [ht] at hP
  have hD := hD1.weaken (fun k q _ h => hFc q.1 h)
  have hP : va_P D vwCl (mw_w om R C z A_2) H1 := hP
  have hD : va_D Ad (mw_w om R C z A_2) := hD
  generalize H1 = H at hP hS ⊢
  refine W.eq (g2 := F0 m 11 ls []) rfl ?_
  refine lv_aload_n hx hb dX12_compareFractions_11 rfl (lv_at hl 0 rfl) ?_
  refine lv_sipush (v := hz_i 4244) hx hb dX12_compareFractions_12 (by decide +kernel) ?_
  refine lv_iload_n hx hb dX12_compareFractions_15 rfl (lv_at hl 2 rfl) ?_
  refine lv_iload_n hx hb dX12_compareFractions_16 rfl (lv_at hl 1 rfl) ?_
  refine lv_iconst (v := hz_i 1) hx hb dX12_compareFractions_17 (by decide +kernel) ?_
  refine hz_iadd hx hb dX12_compareFractions_18 ?_
  have hFc := mw_free hD hS hA
  refine va_callv (va_runV (As := [.int (hz_i 4244), .int (hz_i y2), .int (hz_i (y1 + 1))]) (rest := []) ⟨hx, hb, hml, hown, hts⟩ (k_bigProduct l D _ om R C z A_2 4244 y2 (y1 + 1) _ hw) (cwV 3 hts gX12_compareFractions_X12_bigProduct rfl rfl rfl (by decide +kernel) ⟨Nat.le_of_ble_eq_true rfl, Nat.le_of_ble_eq_true rfl⟩) ⟨hm_blind, va_recv hK hP (ci := 12) (q0 := 0) rfl rfl, hm_pre hP hK hD hE⟩ rfl rfl hl.1 rfl (lv_room (Nat.le_of_ble_eq_true rfl)) dX12_compareFractions_19 ⟨Nat.le_of_ble_eq_true rfl, Nat.le_of_ble_eq_true rfl⟩) hS (fun q _ h => hFc q h) hFc (fun u t H1 locs ht hvm hw hB hz1 hk1 hS => ?_)
  obtain ⟨r_3, _, A_4⟩ := u
  obtain ⟨hP, hK1, hD1⟩ := hB
  rw [ht] at hP
  have hD := hD1.weaken (fun k q _ h => hFc q.1 h)
  have hP : va_P D vwCl (mw_w om R C z A_4) H1 := hP
  have hD : va_D Ad (mw_w om R C z A_4) := hD
  generalize H1 = H at hP hS ⊢
  refine W.eq (g2 := F0 m 22 ls []) rfl ?_
  refine lv_aload_n hx hb dX12_compareFractions_22 rfl (lv_at hl 0 rfl) ?_
  refine lv_sipush (v := hz_i 4243) hx hb dX12_compareFractions_23 (by decide +kernel) ?_
  refine lv_sipush (v := hz_i 4244) hx hb dX12_compareFractions_26 (by decide +kernel) ?_
  have hFc := mw_free hD hS hA
  refine va_calli (va_runV (As := [.int (hz_i 4243), .int (hz_i 4244)]) (rest := []) ⟨hx, hb, hml, hown, hts⟩ (k_bigCompare l D _ om R C z A_4 4243 4244 _ hw) (cwV 2 hts gX12_compareFractions_X12_bigCompare rfl rfl rfl (by decide +kernel) ⟨Nat.le_of_ble_eq_true rfl, Nat.le_of_ble_eq_true rfl⟩) ⟨hm_blind, va_recv hK hP (ci := 12) (q0 := 0) rfl rfl, hm_pre hP hK hD hE⟩ rfl rfl hl.1 rfl (lv_room (Nat.le_of_ble_eq_true rfl)) dX12_compareFractions_29 ⟨Nat.le_of_ble_eq_true rfl, Nat.le_of_ble_eq_true rfl⟩) hS (fun q _ h => hFc q h) hFc (fun rv u t H1 locs ht hvm hw hB hz1 hk1 hS => ?_)
  obtain ⟨r_5, _, _⟩ := u
  obtain ⟨hP, hK1, hD1⟩ := hB
  rw [ht] at hP
  obtain ⟨hrv, hw⟩ := hw
  subst hrv
  have hD := hD1.weaken (fun k q _ h => hFc q.1 h)
  have hP : va_P D vwCl (mw_w om R C z A_4) H1 := hP
  have hD : va_D Ad (mw_w om R C z A_4) := hD
  generalize H1 = H at hP hS ⊢
  refine W.eq (g2 := F0 m 32 ls [.int (hz_i r_5)]) rfl ?_
  subst hQQ
  subst hAe
  exact W.iret (v := hz_i r_5) hx hb hr (fun t ht hW => ⟨⟨hz_i r_5, (r_5, z, A_4), rfl, ⟨rfl, hw⟩, by rw [ht]; exact hP, va_K.moved hW.alike hK, hD⟩, hS.F ht⟩) hS.2.2 dX12_compareFractions_32

noncomputable def wp_exchangeCell_51 (z : Nat → Int) (A : Nat → Nat → Int) (y1 : Int) (Q : (Nat → Nat → Int) → Prop) : Prop := wp_bigCopy z A y1 4243 (fun A_2 => Q A_2)
noncomputable def wp_exchangeCell (z : Nat → Int) (A : Nat → Nat → Int) (y1 : Int) (y2 : Int) (y3 : Int) (Q : (Nat → Nat → Int) → Prop) : Prop := wp_bigProduct z A 4243 4226 y1 (fun A_4 => wp_bigProduct z A_4 4245 y2 y3 (fun A_6 => wp_bigAdd z A_6 4243 4245 1 (fun A_8 => wp_bigIsOne z A_8 4225 (fun r_9 => hz_rI r_9 ∧ ((¬ r_9 = 0 → wp_exchangeCell_51 z A_8 y1  Q) ∧ (r_9 = 0 → wp_divideAll z A_8 4243 4225 (fun A_12 => wp_exchangeCell_51 z A_12 y1  Q)))))))
set_option maxHeartbeats 4000000 in
set_option maxRecDepth 100000 in
theorem k_exchangeCell (l : Launch) (D : va_G) (sz : Nat) (om : Nat) (R : Nat → Nat) (C : Nat → ClassId) (z : Nat → Int) (A : Nat → Nat → Int) (y1 : Int) (y2 : Int) (y3 : Int) (Q : (Nat → Nat → Int) → Prop) (hw : wp_exchangeCell z A y1 y2 y3 Q) : Met l yX12_exchangeCell wsX12_exchangeCell ({ frames := 5, cells := 0, slots := 0, locals := 129 } : Room) (va_Pc [.ref om, .int (hz_i y1), .int (hz_i y2), .int (hz_i y3)] (hm_P D (mw_w om R C z A) (mw_t C) sz)) (va_Qv (S := Int × (Nat → Int) × (Nat → Nat → Int)) (fun u => Q u.2.2) (fun u t => hm_B D (va_A (mw_w om R C z A) sz) (mw_w om R C z u.2.2) (mw_t C) t) (va_A (mw_w om R C z A) sz)) 0 0 (va_A (mw_w om R C z A) sz) := by
  refine Met.ofW (cc := cX12_exchangeCell) (maxL := 4) (ret := none) (by decide) rfl ?_
  intro p e s m args below meth c s₁ B hml hv
  obtain ⟨rfl, hsz, hP, hK, hD0, hE⟩ := hv
  have hx := B.exec
  have hb := B.bytes
  have hr := B.returns
  have hts := atoms_spec (ws := wsX12_exchangeCell) B.pre
  have hown : s.vm.findClass RX12 = some m.cls := findClass_of_methodNamed B.named
  have hlocks := B.notSynchronized
  subst hsz
  have hD := hD0.self (sz := s.heap.size)
  generalize hAe : va_A (mw_w om R C z A) s.heap.size = Ad at hD ⊢
  have hA : ∀ q : Nat, s.heap.size ≤ q → Ad q := fun q h => by rw [← hAe]; exact Or.inr h
  have hS : va_S Ad s.heap s.heap [] := va_S.rf
  have hl := lv_entry ([.ref om, .int (hz_i y1), .int (hz_i y2), .int (hz_i y3)]) (n := 4) (Nat.le_of_ble_eq_true rfl)
  rw [lg_entry_eq]
  generalize (lg_sl ([.ref om, .int (hz_i y1), .int (hz_i y2), .int (hz_i y3)]) ++ List.replicate (4 - (lg_sl ([.ref om, .int (hz_i y1), .int (hz_i y2), .int (hz_i y3)])).length) Slot.unset).toArray = ls at hl ⊢
  have hl : lv_has ls 4 [(0, .ref om), (1, .int (hz_i y1)), (2, .int (hz_i y2)), (3, .int (hz_i y3))] := hl
  refine mw_Q (fun QQ hQQ => ?_)
  have hP0 := hP; have hD0 := hD; have hS0 := hS; have hl0 := hl; have hw0 := hw
  clear hP hD hS hl hw
  have L51 : ∀ (A : Nat → Nat → Int), wp_exchangeCell_51 z A y1  Q → ∀ (H : Heap) (locs : List Loc) (ls : Array Slot), va_P D vwCl (mw_w om R C z A) H → va_D Ad (mw_w om R C z A) → va_S Ad s.heap H locs → lv_has ls 4 [(0, .ref om), (1, .int (hz_i y1))] → W p l e (headSpec wsX12_exchangeCell ({ frames := 5, cells := 0, slots := 0, locals := 129 } : Room)).room s m (List.toArray [.ref om, .int (hz_i y1), .int (hz_i y2), .int (hz_i y3)]) below meth c H locs 0 0 QQ (F0 m 51 ls []) := by
    intro A hw H locs ls hP hD hS hl
    refine lv_aload_n hx hb dX12_exchangeCell_51 rfl (lv_at hl 0 rfl) ?_
    refine lv_iload_n hx hb dX12_exchangeCell_52 rfl (lv_at hl 1 rfl) ?_
    refine lv_sipush (v := hz_i 4243) hx hb dX12_exchangeCell_53 (by decide +kernel) ?_
    have hFc := mw_free hD hS hA
    refine va_callv (va_runV (As := [.int (hz_i y1), .int (hz_i 4243)]) (rest := []) ⟨hx, hb, hml, hown, hts⟩ (k_bigCopy l D _ om R C z A y1 4243 _ hw) (cwV 2 hts gX12_exchangeCell_X12_bigCopy rfl rfl rfl (by decide +kernel) ⟨Nat.le_of_ble_eq_true rfl, Nat.le_of_ble_eq_true rfl⟩) ⟨hm_blind, va_recv hK hP (ci := 12) (q0 := 0) rfl rfl, hm_pre hP hK hD hE⟩ rfl rfl hl.1 rfl (lv_room (Nat.le_of_ble_eq_true rfl)) dX12_exchangeCell_56 ⟨Nat.le_of_ble_eq_true rfl, Nat.le_of_ble_eq_true rfl⟩) hS (fun q _ h => hFc q h) hFc (fun u t H1 locs ht hvm hw hB hz1 hk1 hS => ?_)
    obtain ⟨r_1, _, A_2⟩ := u
    obtain ⟨hP, hK1, hD1⟩ := hB
    rw [ht] at hP
    have hD := hD1.weaken (fun k q _ h => hFc q.1 h)
    have hP : va_P D vwCl (mw_w om R C z A_2) H1 := hP
    have hD : va_D Ad (mw_w om R C z A_2) := hD
    generalize H1 = H at hP hS ⊢
    refine W.eq (g2 := F0 m 59 ls []) rfl ?_
    subst hQQ
    subst hAe
    exact W.vret hx hb hr (fun t ht hW => ⟨⟨(0, z, A_2), rfl, hw, by rw [ht]; exact hP, va_K.moved hW.alike hK, hD⟩, hS.F ht⟩) hS.2.2 dX12_exchangeCell_59
  have hP := hP0; have hD := hD0; have hS := hS0; have hl := hl0; have hw := hw0
  obtain ⟨H, hH⟩ : ∃ H : Heap, H = s.heap := ⟨_, rfl⟩
  obtain ⟨locs, hlocs⟩ : ∃ L : List Loc, L = [] := ⟨_, rfl⟩
  rw [← hH] at hP
  have hS : va_S Ad s.heap H locs := by rw [hH, hlocs]; exact hS
  refine mw_HL hH hlocs ?_
  refine lv_aload_n hx hb dX12_exchangeCell_0 rfl (lv_at hl 0 rfl) ?_
  refine lv_sipush (v := hz_i 4243) hx hb dX12_exchangeCell_1 (by decide +kernel) ?_
  refine lv_sipush (v := hz_i 4226) hx hb dX12_exchangeCell_4 (by decide +kernel) ?_
  refine lv_iload_n hx hb dX12_exchangeCell_7 rfl (lv_at hl 1 rfl) ?_
  have hFc := mw_free hD hS hA
  refine va_callv (va_runV (As := [.int (hz_i 4243), .int (hz_i 4226), .int (hz_i y1)]) (rest := []) ⟨hx, hb, hml, hown, hts⟩ (k_bigProduct l D _ om R C z A 4243 4226 y1 _ hw) (cwV 3 hts gX12_exchangeCell_X12_bigProduct rfl rfl rfl (by decide +kernel) ⟨Nat.le_of_ble_eq_true rfl, Nat.le_of_ble_eq_true rfl⟩) ⟨hm_blind, va_recv hK hP (ci := 12) (q0 := 0) rfl rfl, hm_pre hP hK hD hE⟩ rfl rfl hl.1 rfl (lv_room (Nat.le_of_ble_eq_true rfl)) dX12_exchangeCell_8 ⟨Nat.le_of_ble_eq_true rfl, Nat.le_of_ble_eq_true rfl⟩) hS (fun q _ h => hFc q h) hFc (fun u t H1 locs ht hvm hw hB hz1 hk1 hS => ?_)
  obtain ⟨r_3, _, A_4⟩ := u
  obtain ⟨hP, hK1, hD1⟩ := hB
  rw [ht] at hP
  have hD := hD1.weaken (fun k q _ h => hFc q.1 h)
  have hP : va_P D vwCl (mw_w om R C z A_4) H1 := hP
  have hD : va_D Ad (mw_w om R C z A_4) := hD
  generalize H1 = H at hP hS ⊢
  refine W.eq (g2 := F0 m 11 ls []) rfl ?_
  refine lv_aload_n hx hb dX12_exchangeCell_11 rfl (lv_at hl 0 rfl) ?_
  refine lv_sipush (v := hz_i 4245) hx hb dX12_exchangeCell_12 (by decide +kernel) ?_
  refine lv_iload_n hx hb dX12_exchangeCell_15 rfl (lv_at hl 2 rfl) ?_
  refine lv_iload_n hx hb dX12_exchangeCell_16 rfl (lv_at hl 3 rfl) ?_
  have hFc := mw_free hD hS hA
  refine va_callv (va_runV (As := [.int (hz_i 4245), .int (hz_i y2), .int (hz_i y3)]) (rest := []) ⟨hx, hb, hml, hown, hts⟩ (k_bigProduct l D _ om R C z A_4 4245 y2 y3 _ hw) (cwV 3 hts gX12_exchangeCell_X12_bigProduct rfl rfl rfl (by decide +kernel) ⟨Nat.le_of_ble_eq_true rfl, Nat.le_of_ble_eq_true rfl⟩) ⟨hm_blind, va_recv hK hP (ci := 12) (q0 := 0) rfl rfl, hm_pre hP hK hD hE⟩ rfl rfl hl.1 rfl (lv_room (Nat.le_of_ble_eq_true rfl)) dX12_exchangeCell_17 ⟨Nat.le_of_ble_eq_true rfl, Nat.le_of_ble_eq_true rfl⟩) hS (fun q _ h => hFc q h) hFc (fun u t H1 locs ht hvm hw hB hz1 hk1 hS => ?_)
  obtain ⟨r_5, _, A_6⟩ := u
  obtain ⟨hP, hK1, hD1⟩ := hB
  rw [ht] at hP
  have hD := hD1.weaken (fun k q _ h => hFc q.1 h)
  have hP : va_P D vwCl (mw_w om R C z A_6) H1 := hP
  have hD : va_D Ad (mw_w om R C z A_6) := hD
  generalize H1 = H at hP hS ⊢
  refine W.eq (g2 := F0 m 20 ls []) rfl ?_
  refine lv_aload_n hx hb dX12_exchangeCell_20 rfl (lv_at hl 0 rfl) ?_
  refine lv_sipush (v := hz_i 4243) hx hb dX12_exchangeCell_21 (by decide +kernel) ?_
  refine lv_sipush (v := hz_i 4245) hx hb dX12_exchangeCell_24 (by decide +kernel) ?_
  refine lv_iconst (v := hz_i 1) hx hb dX12_exchangeCell_27 (by decide +kernel) ?_
  have hFc := mw_free hD hS hA
  refine va_callv (va_runV (As := [.int (hz_i 4243), .int (hz_i 4245), .int (hz_i 1)]) (rest := []) ⟨hx, hb, hml, hown, hts⟩ (k_bigAdd l D _ om R C z A_6 4243 4245 1 _ hw) (cwV 3 hts gX12_exchangeCell_X12_bigAdd rfl rfl rfl (by decide +kernel) ⟨Nat.le_of_ble_eq_true rfl, Nat.le_of_ble_eq_true rfl⟩) ⟨hm_blind, va_recv hK hP (ci := 12) (q0 := 0) rfl rfl, hm_pre hP hK hD hE⟩ rfl rfl hl.1 rfl (lv_room (Nat.le_of_ble_eq_true rfl)) dX12_exchangeCell_28 ⟨Nat.le_of_ble_eq_true rfl, Nat.le_of_ble_eq_true rfl⟩) hS (fun q _ h => hFc q h) hFc (fun u t H1 locs ht hvm hw hB hz1 hk1 hS => ?_)
  obtain ⟨r_7, _, A_8⟩ := u
  obtain ⟨hP, hK1, hD1⟩ := hB
  rw [ht] at hP
  have hD := hD1.weaken (fun k q _ h => hFc q.1 h)
  have hP : va_P D vwCl (mw_w om R C z A_8) H1 := hP
  have hD : va_D Ad (mw_w om R C z A_8) := hD
  generalize H1 = H at hP hS ⊢
  refine W.eq (g2 := F0 m 31 ls []) rfl ?_
  refine lv_aload_n hx hb dX12_exchangeCell_31 rfl (lv_at hl 0 rfl) ?_
  refine lv_sipush (v := hz_i 4225) hx hb dX12_exchangeCell_32 (by decide +kernel) ?_
  have hFc := mw_free hD hS hA
  refine va_calli (va_runV (As := [.int (hz_i 4225)]) (rest := []) ⟨hx, hb, hml, hown, hts⟩ (k_bigIsOne l D _ om R C z A_8 4225 _ hw) (cwV 1 hts gX12_exchangeCell_X12_bigIsOne rfl rfl rfl (by decide +kernel) ⟨Nat.le_of_ble_eq_true rfl, Nat.le_of_ble_eq_true rfl⟩) ⟨hm_blind, va_recv hK hP (ci := 12) (q0 := 0) rfl rfl, hm_pre hP hK hD hE⟩ rfl rfl hl.1 rfl (lv_room (Nat.le_of_ble_eq_true rfl)) dX12_exchangeCell_35 ⟨Nat.le_of_ble_eq_true rfl, Nat.le_of_ble_eq_true rfl⟩) hS (fun q _ h => hFc q h) hFc (fun rv u t H1 locs ht hvm hw hB hz1 hk1 hS => ?_)
  obtain ⟨r_9, _, _⟩ := u
  obtain ⟨hP, hK1, hD1⟩ := hB
  rw [ht] at hP
  obtain ⟨hrv, hw⟩ := hw
  subst hrv
  have hD := hD1.weaken (fun k q _ h => hFc q.1 h)
  have hP : va_P D vwCl (mw_w om R C z A_8) H1 := hP
  have hD : va_D Ad (mw_w om R C z A_8) := hD
  generalize H1 = H at hP hS ⊢
  refine W.eq (g2 := F0 m 38 ls [.int (hz_i r_9)]) rfl ?_
  obtain ⟨h9a, hw⟩ := hw
  refine hz_if_ne (tgt := 51) hx hb dX12_exchangeCell_38 (by decide) h9a (fun c_10 => ?_) (fun c_10 => ?_)
  · have hw := hw.1 c_10
    exact L51 A_8 hw H locs ls hP hD hS (lv_sub hl [0, 1] rfl)
  · have hw := hw.2 c_10
    refine lv_aload_n hx hb dX12_exchangeCell_41 rfl (lv_at hl 0 rfl) ?_
    refine lv_sipush (v := hz_i 4243) hx hb dX12_exchangeCell_42 (by decide +kernel) ?_
    refine lv_sipush (v := hz_i 4225) hx hb dX12_exchangeCell_45 (by decide +kernel) ?_
    have hFc := mw_free hD hS hA
    refine va_callv (va_runV (As := [.int (hz_i 4243), .int (hz_i 4225)]) (rest := []) ⟨hx, hb, hml, hown, hts⟩ (k_divideAll l D _ om R C z A_8 4243 4225 _ hw) (cwV 2 hts gX12_exchangeCell_X12_divideAll rfl rfl rfl (by decide +kernel) ⟨Nat.le_of_ble_eq_true rfl, Nat.le_of_ble_eq_true rfl⟩) ⟨hm_blind, va_recv hK hP (ci := 12) (q0 := 0) rfl rfl, hm_pre hP hK hD hE⟩ rfl rfl hl.1 rfl (lv_room (Nat.le_of_ble_eq_true rfl)) dX12_exchangeCell_48 ⟨Nat.le_of_ble_eq_true rfl, Nat.le_of_ble_eq_true rfl⟩) hS (fun q _ h => hFc q h) hFc (fun u t H1 locs ht hvm hw hB hz1 hk1 hS => ?_)
    obtain ⟨r_11, _, A_12⟩ := u
    obtain ⟨hP, hK1, hD1⟩ := hB
    rw [ht] at hP
    have hD := hD1.weaken (fun k q _ h => hFc q.1 h)
    have hP : va_P D vwCl (mw_w om R C z A_12) H1 := hP
    have hD : va_D Ad (mw_w om R C z A_12) := hD
    generalize H1 = H at hP hS ⊢
    refine W.eq (g2 := F0 m 51 ls []) rfl ?_
    exact L51 A_12 hw H locs ls hP hD hS (lv_sub hl [0, 1] rfl)

noncomputable def wp_type_105 (z : Nat → Int) (A : Nat → Nat → Int) (y1 : Int) (x5 : Int) (Q : Int → (Nat → Int) → (Nat → Nat → Int) → Prop) : Prop := ∀ P105 : (Nat → Int) → (Nat → Nat → Int) → Int → Prop, (∀ (z : Nat → Int) (A : Nat → Nat → Int) (x5 : Int), hz_rI x5 ∧ ((x5 < 0 → Q (z 5) z A) ∧ (¬ (x5 < 0) → hz_rL y1 ∧ (0 ≤ 8 * x5 ∧ 8 * x5 < 64) ∧ hz_rL (y1 / 2 ^ (8 * x5).toNat) ∧ (-128 ≤ (y1 / 2 ^ (8 * x5).toNat) % 256 ∧ (y1 / 2 ^ (8 * x5).toNat) % 256 < 128) ∧ (0 ≤ z 5 ∧ z 5 < 4000) ∧ (-128 ≤ (y1 / 2 ^ (8 * x5).toNat) % 256 ∧ (y1 / 2 ^ (8 * x5).toNat) % 256 < 128) ∧ ∀ A_2 : Nat → Nat → Int, A_2 = hz_s A 4 (z 5) ((y1 / 2 ^ (8 * x5).toNat) % 256) → ∀ z_3 : Nat → Int, z_3 = lp_U z 5 ((z 5) + 1) → ∀ x5_4 : Int, x5_4 = x5 + (-1) → P105 z_3 A_2 x5_4)) → P105 z A x5) → P105 z A x5
noncomputable def wp_type_93 (z : Nat → Int) (A : Nat → Nat → Int) (y1 : Int) (y3 : Int) (x4 : Int) (Q : Int → (Nat → Int) → (Nat → Nat → Int) → Prop) : Prop := hz_rI x4 ∧ ((¬ x4 = 0 → ∀ x5_6 : Int, x5_6 = y3 - 1 → wp_type_105 z A y1 x5_6  Q) ∧ (x4 = 0 → Q (-1) z A))
noncomputable def wp_type_85 (z : Nat → Int) (A : Nat → Nat → Int) (y1 : Int) (y3 : Int) (x5 : Int) (t0 : Int) (P38 : Int → Int → Prop) (Q : Int → (Nat → Int) → (Nat → Nat → Int) → Prop) : Prop := ∀ x5_7 : Int, x5_7 = x5 + 1 → P38 t0 x5_7
noncomputable def wp_type_84 (z : Nat → Int) (A : Nat → Nat → Int) (y1 : Int) (y3 : Int) (x5 : Int) (P38 : Int → Int → Prop) (Q : Int → (Nat → Int) → (Nat → Nat → Int) → Prop) : Prop := wp_type_85 z A y1 y3 x5 0 P38 Q
noncomputable def wp_type_38 (z : Nat → Int) (A : Nat → Nat → Int) (y1 : Int) (y3 : Int) (x4 : Int) (x5 : Int) (Q : Int → (Nat → Int) → (Nat → Nat → Int) → Prop) : Prop := ∀ P38 : Int → Int → Prop, (∀ (x4 : Int) (x5 : Int), hz_rI x4 ∧ ((x4 = 0 → wp_type_93 z A y1 y3 x4  Q) ∧ (¬ (x4 = 0) → hz_rI x5 ∧ hz_rI y3 ∧ ((y3 ≤ x5 → wp_type_93 z A y1 y3 x4  Q) ∧ (¬ (y3 ≤ x5) → hz_rL y1 ∧ (0 ≤ 8 * x5 ∧ 8 * x5 < 64) ∧ hz_rL (y1 / 2 ^ (8 * x5).toNat) ∧ ∀ x6_10 : Int, x6_10 = (y1 / 2 ^ (8 * x5).toNat) % 256 → hz_rL x6_10 ∧ ((x6_10 < 32 → wp_type_84 z A y1 y3 x5 P38 Q) ∧ (¬ (x6_10 < 32) → hz_rL x6_10 ∧ ((126 < x6_10 → wp_type_84 z A y1 y3 x5 P38 Q) ∧ (¬ (126 < x6_10) → wp_type_85 z A y1 y3 x5 1 P38 Q)))))))) → P38 x4 x5) → P38 x4 x5
noncomputable def wp_type_33 (z : Nat → Int) (A : Nat → Nat → Int) (y1 : Int) (y3 : Int) (t0 : Int) (Q : Int → (Nat → Int) → (Nat → Nat → Int) → Prop) : Prop := wp_type_38 z A y1 y3 t0 0  Q
noncomputable def wp_type_32 (z : Nat → Int) (A : Nat → Nat → Int) (y1 : Int) (y3 : Int) (Q : Int → (Nat → Int) → (Nat → Nat → Int) → Prop) : Prop := wp_type_33 z A y1 y3 0  Q
noncomputable def wp_type (z : Nat → Int) (A : Nat → Nat → Int) (y1 : Int) (y3 : Int) (Q : Int → (Nat → Int) → (Nat → Nat → Int) → Prop) : Prop := ∀ z_13 : Nat → Int, z_13 = lp_U z 3 0 → hz_rI y3 ∧ ((y3 < 1 → wp_type_32 z_13 A y1 y3  Q) ∧ (¬ (y3 < 1) → hz_rI y3 ∧ ((8 < y3 → wp_type_32 z_13 A y1 y3  Q) ∧ (¬ (8 < y3) → hz_rI ((z_13 5) + y3) ∧ ((4000 < (z_13 5) + y3 → wp_type_32 z_13 A y1 y3  Q) ∧ (¬ (4000 < (z_13 5) + y3) → wp_type_33 z_13 A y1 y3 1  Q))))))
set_option maxHeartbeats 4000000 in
set_option maxRecDepth 100000 in
theorem k_type (l : Launch) (D : va_G) (sz : Nat) (om : Nat) (R : Nat → Nat) (C : Nat → ClassId) (z : Nat → Int) (A : Nat → Nat → Int) (y1 : Int) (y3 : Int) (Q : Int → (Nat → Int) → (Nat → Nat → Int) → Prop) (hw : wp_type z A y1 y3 Q) : Met l yX12_type wsX12_type ({ frames := 0, cells := 0, slots := 0, locals := 0 } : Room) (va_Pc [.ref om, .long (hz_l y1), .int (hz_i y3)] (hm_P D (mw_w om R C z A) (mw_t C) sz)) (va_Qi (S := Int × (Nat → Int) × (Nat → Nat → Int)) (fun r u => r = hz_i u.1 ∧ Q u.1 u.2.1 u.2.2) (fun u t => hm_B D (va_A (mw_w om R C z A) sz) (mw_w om R C u.2.1 u.2.2) (mw_t C) t) (va_A (mw_w om R C z A) sz)) 0 0 (va_A (mw_w om R C z A) sz) := by
  refine Met.ofW (cc := cX12_type) (maxL := 8) (ret := (some .int)) (by decide) rfl ?_
  intro p e s m args below meth c s₁ B hml hv
  obtain ⟨rfl, hsz, hP, hK, hD0, hE⟩ := hv
  have hx := B.exec
  have hb := B.bytes
  have hr := B.returns
  have hts := atoms_spec (ws := wsX12_type) B.pre
  have hown : s.vm.findClass RX12 = some m.cls := findClass_of_methodNamed B.named
  have hlocks := B.notSynchronized
  have hin12 : ∀ w ∈ u_ws RX12 TX12 58, w ∈ wsX12_type := fun w h => List.mem_cons_of_mem _ (List.mem_append_right _ (h))
  subst hsz
  have hD := hD0.self (sz := s.heap.size)
  generalize hAe : va_A (mw_w om R C z A) s.heap.size = Ad at hD ⊢
  have hA : ∀ q : Nat, s.heap.size ≤ q → Ad q := fun q h => by rw [← hAe]; exact Or.inr h
  have hS : va_S Ad s.heap s.heap [] := va_S.rf
  have hl := lv_entry ([.ref om, .long (hz_l y1), .int (hz_i y3)]) (n := 8) (Nat.le_of_ble_eq_true rfl)
  rw [lg_entry_eq]
  generalize (lg_sl ([.ref om, .long (hz_l y1), .int (hz_i y3)]) ++ List.replicate (8 - (lg_sl ([.ref om, .long (hz_l y1), .int (hz_i y3)])).length) Slot.unset).toArray = ls at hl ⊢
  have hl : lv_has ls 8 [(0, .ref om), (1, .long (hz_l y1)), (3, .int (hz_i y3))] := hl
  refine mw_Q (fun QQ hQQ => ?_)
  have hP0 := hP; have hD0 := hD; have hS0 := hS; have hl0 := hl; have hw0 := hw
  clear hP hD hS hl hw
  have L105 : ∀ (z : Nat → Int) (A : Nat → Nat → Int) (x5 : Int), wp_type_105 z A y1 x5  Q → ∀ (H : Heap) (locs : List Loc) (ls : Array Slot), va_P D vwCl (mw_w om R C z A) H → va_D Ad (mw_w om R C z A) → va_S Ad s.heap H locs → lv_has ls 8 [(0, .ref om), (1, .long (hz_l y1)), (5, .int (hz_i x5))] → W p l e (headSpec wsX12_type ({ frames := 0, cells := 0, slots := 0, locals := 0 } : Room)).room s m (List.toArray [.ref om, .long (hz_l y1), .int (hz_i y3)]) below meth c H locs 0 0 QQ (F0 m 105 ls []) := by
    intro z A x5 hw
    obtain ⟨P105, hP105⟩ : ∃ P : (Nat → Int) → (Nat → Nat → Int) → Int → Prop, ∀ (z : Nat → Int) (A : Nat → Nat → Int) (x5 : Int), P z A x5 ↔ (∀ (H : Heap) (locs : List Loc) (ls : Array Slot), va_P D vwCl (mw_w om R C z A) H → va_D Ad (mw_w om R C z A) → va_S Ad s.heap H locs → lv_has ls 8 [(0, .ref om), (1, .long (hz_l y1)), (5, .int (hz_i x5))] → W p l e (headSpec wsX12_type ({ frames := 0, cells := 0, slots := 0, locals := 0 } : Room)).room s m (List.toArray [.ref om, .long (hz_l y1), .int (hz_i y3)]) below meth c H locs 0 0 QQ (F0 m 105 ls [])) := ⟨fun (z : Nat → Int) (A : Nat → Nat → Int) (x5 : Int) => ∀ (H : Heap) (locs : List Loc) (ls : Array Slot), va_P D vwCl (mw_w om R C z A) H → va_D Ad (mw_w om R C z A) → va_S Ad s.heap H locs → lv_has ls 8 [(0, .ref om), (1, .long (hz_l y1)), (5, .int (hz_i x5))] → W p l e (headSpec wsX12_type ({ frames := 0, cells := 0, slots := 0, locals := 0 } : Room)).room s m (List.toArray [.ref om, .long (hz_l y1), .int (hz_i y3)]) below meth c H locs 0 0 QQ (F0 m 105 ls []), fun _ _ _ => Iff.rfl⟩
    refine (hP105 z A x5).mp (hw P105 ?_)
    intro z A x5 hw
    refine (hP105 z A x5).mpr ?_
    intro H locs ls hP hD hS hl
    refine lv_iload hx hb dX12_type_105 (lv_at hl 2 rfl) ?_
    obtain ⟨h9a, hw⟩ := hw
    refine hz_if_lt (tgt := 148) hx hb dX12_type_107 (by decide) h9a (fun c_1 => ?_) (fun c_1 => ?_)
    · have hw := hw.1 c_1
      refine lv_aload_n hx hb dX12_type_148 rfl (lv_at hl 0 rfl) ?_
      refine mw_get (v := .int (hz_i (z 5))) hx hb hts hin12 hown hK hP 5 (by decide) (hts (.fieldLink RX12 226 "HiddenMovesModel" "length" "I") (List.mem_cons_of_mem _ (List.mem_append_left _ (List.mem_of_getElem? (i := 1) rfl)))) (fun _ h9 => h9) rfl dX12_type_149 ?_
      subst hQQ
      subst hAe
      exact W.iret (v := hz_i (z 5)) hx hb hr (fun t ht hW => ⟨⟨hz_i (z 5), (z 5, z, A), rfl, ⟨rfl, hw⟩, by rw [ht]; exact hP, va_K.moved hW.alike hK, hD⟩, hS.F ht⟩) hS.2.2 dX12_type_152
    · have hw := hw.2 c_1
      refine lv_aload_n hx hb dX12_type_110 rfl (lv_at hl 0 rfl) ?_
      refine mw_get (v := .ref (R 4)) hx hb hts hin12 hown hK hP 4 (by decide) (hts (.fieldLink RX12 94 "HiddenMovesModel" "text" "[B") (List.mem_cons_of_mem _ (List.mem_append_left _ (List.mem_of_getElem? (i := 5) rfl)))) (fun _ h9 => h9) rfl dX12_type_111 ?_
      refine lv_aload_n hx hb dX12_type_114 rfl (lv_at hl 0 rfl) ?_
      refine mw_get (v := .int (hz_i (z 5))) hx hb hts hin12 hown hK hP 5 (by decide) (hts (.fieldLink RX12 226 "HiddenMovesModel" "length" "I") (List.mem_cons_of_mem _ (List.mem_append_left _ (List.mem_of_getElem? (i := 1) rfl)))) (fun _ h9 => h9) rfl dX12_type_115 ?_
      refine lv_lload_n hx hb dX12_type_118 rfl (lv_at hl 1 rfl) ?_
      refine lv_bipush (v := hz_i 8) hx hb dX12_type_119 (by decide +kernel) ?_
      refine lv_iload hx hb dX12_type_121 (lv_at hl 2 rfl) ?_
      refine hz_imul hx hb dX12_type_123 ?_
      obtain ⟨h9a, h9b, hw⟩ := hw
      refine hz_wlshrv hx hb dX12_type_124 h9a h9b ?_
      refine lv_ldc2 hx hb hown (hts (.constantLong RX12 229 (255)) (List.mem_cons_of_mem _ (List.mem_append_left _ (List.mem_of_getElem? (i := 2) rfl)))) dX12_type_125 ?_
      refine hz_asl (b := 255) (by decide +kernel) ?_
      obtain ⟨h9a, hw⟩ := hw
      refine hz_wland (P := 256) hx hb 8 dX12_type_128 (by decide) (by decide +kernel) (by decide +kernel) h9a ?_
      refine hz_wl2i hx hb dX12_type_129 ?_
      obtain ⟨h9a, hw⟩ := hw
      refine hz_wi2b hx hb dX12_type_130 h9a ?_
      obtain ⟨h9i, hw⟩ := hw
      obtain ⟨h9z, hw⟩ := hw
      refine mw_bst (k := 4) (n := 4000) (i := z 5) (v := (y1 / 2 ^ (8 * x5).toNat) % 256) hx hb hK hP hD hS 4 3 rfl rfl (mw_a4 om R C z A) h9i (by decide) h9z dX12_type_131 (fun H locs hP hD hS => ?_)
      obtain ⟨A_2, hA_2⟩ : ∃ y : Nat → Nat → Int, y = hz_s A 4 (z 5) ((y1 / 2 ^ (8 * x5).toNat) % 256) := ⟨_, rfl⟩
      rw [← hA_2] at hP hD
      have hw := hw A_2 hA_2
      refine lv_aload_n hx hb dX12_type_132 rfl (lv_at hl 0 rfl) ?_
      refine lv_dup hx hb dX12_type_133 rfl ?_
      refine mw_get (v := .int (hz_i (z 5))) hx hb hts hin12 hown hK hP 5 (by decide) (hts (.fieldLink RX12 226 "HiddenMovesModel" "length" "I") (List.mem_cons_of_mem _ (List.mem_append_left _ (List.mem_of_getElem? (i := 1) rfl)))) (fun _ h9 => h9) rfl dX12_type_134 ?_
      refine lv_iconst (v := hz_i 1) hx hb dX12_type_137 (by decide +kernel) ?_
      refine hz_iadd hx hb dX12_type_138 ?_
      refine mw_put (ty := .int) (v := .int (hz_i ((z 5) + 1))) hx hb hts hin12 hown hK hP hD hS 5 (by decide) (hts (.fieldLink RX12 226 "HiddenMovesModel" "length" "I") (List.mem_cons_of_mem _ (List.mem_append_left _ (List.mem_of_getElem? (i := 1) rfl)))) (fun _ h9 => h9) rfl (by decide +kernel) rfl rfl (mw_s5 R z ((z 5) + 1)) dX12_type_139 (fun H locs hP hD hS => ?_)
      obtain ⟨z_3, hz_3⟩ : ∃ y : Nat → Int, y = lp_U z 5 ((z 5) + 1) := ⟨_, rfl⟩
      rw [← hz_3] at hP hD
      have hw := hw z_3 hz_3
      obtain ⟨x5_4, hx5_4⟩ : ∃ y : Int, y = x5 + (-1) := ⟨_, rfl⟩
      have hw := hw x5_4 hx5_4
      refine lv_iinc (v := hz_i x5_4) (lv' := [(5, .int (hz_i x5_4)), (0, .ref om), (1, .long (hz_l y1))]) hx hb dX12_type_142 hl (k := 2) rfl (by rw [hx5_4]; exact hz_i_add _ _) (by decide) rfl (fun ls hl => ?_)
      refine lv_goto (tgt := 105) hx hb dX12_type_145 (by decide) ?_
      exact (hP105 z_3 A_2 x5_4).mp hw H locs ls hP hD hS (lv_sub hl [1, 2, 0] rfl)
  have L93 : ∀ (z : Nat → Int) (A : Nat → Nat → Int) (x4 : Int), wp_type_93 z A y1 y3 x4  Q → ∀ (H : Heap) (locs : List Loc) (ls : Array Slot), va_P D vwCl (mw_w om R C z A) H → va_D Ad (mw_w om R C z A) → va_S Ad s.heap H locs → lv_has ls 8 [(0, .ref om), (1, .long (hz_l y1)), (3, .int (hz_i y3)), (4, .int (hz_i x4))] → W p l e (headSpec wsX12_type ({ frames := 0, cells := 0, slots := 0, locals := 0 } : Room)).room s m (List.toArray [.ref om, .long (hz_l y1), .int (hz_i y3)]) below meth c H locs 0 0 QQ (F0 m 93 ls []) := by
    intro z A x4 hw H locs ls hP hD hS hl
    refine lv_iload hx hb dX12_type_93 (lv_at hl 3 rfl) ?_
    obtain ⟨h9a, hw⟩ := hw
    refine hz_if_ne (tgt := 100) hx hb dX12_type_95 (by decide) h9a (fun c_5 => ?_) (fun c_5 => ?_)
    · have hw := hw.1 c_5
      refine lv_iload_n hx hb dX12_type_100 rfl (lv_at hl 2 rfl) ?_
      refine lv_iconst (v := hz_i 1) hx hb dX12_type_101 (by decide +kernel) ?_
      refine hz_isub hx hb dX12_type_102 ?_
      refine hz_topi (fun x5_6 hx5_6 => ?_)
      have hw := hw x5_6 hx5_6
      refine lv_istore (lv' := [(5, .int (hz_i x5_6)), (0, .ref om), (1, .long (hz_l y1)), (3, .int (hz_i y3)), (4, .int (hz_i x4))]) hx hb dX12_type_103 hl (by decide) rfl (fun ls hl => ?_)
      exact L105 z A x5_6 hw H locs ls hP hD hS (lv_sub hl [1, 2, 0] rfl)
    · have hw := hw.2 c_5
      refine lv_iconst (v := hz_i (-1)) hx hb dX12_type_98 (by decide +kernel) ?_
      subst hQQ
      subst hAe
      exact W.iret (v := hz_i (-1)) hx hb hr (fun t ht hW => ⟨⟨hz_i (-1), ((-1), z, A), rfl, ⟨rfl, hw⟩, by rw [ht]; exact hP, va_K.moved hW.alike hK, hD⟩, hS.F ht⟩) hS.2.2 dX12_type_99
  have L38 : ∀ (z : Nat → Int) (A : Nat → Nat → Int) (x4 : Int) (x5 : Int), wp_type_38 z A y1 y3 x4 x5  Q → ∀ (H : Heap) (locs : List Loc) (ls : Array Slot), va_P D vwCl (mw_w om R C z A) H → va_D Ad (mw_w om R C z A) → va_S Ad s.heap H locs → lv_has ls 8 [(0, .ref om), (1, .long (hz_l y1)), (3, .int (hz_i y3)), (4, .int (hz_i x4)), (5, .int (hz_i x5))] → W p l e (headSpec wsX12_type ({ frames := 0, cells := 0, slots := 0, locals := 0 } : Room)).room s m (List.toArray [.ref om, .long (hz_l y1), .int (hz_i y3)]) below meth c H locs 0 0 QQ (F0 m 38 ls []) := by
    intro z A x4 x5 hw
    obtain ⟨P38, hP38⟩ : ∃ P : Int → Int → Prop, ∀ (x4 : Int) (x5 : Int), P x4 x5 ↔ (∀ (H : Heap) (locs : List Loc) (ls : Array Slot), va_P D vwCl (mw_w om R C z A) H → va_D Ad (mw_w om R C z A) → va_S Ad s.heap H locs → lv_has ls 8 [(0, .ref om), (1, .long (hz_l y1)), (3, .int (hz_i y3)), (4, .int (hz_i x4)), (5, .int (hz_i x5))] → W p l e (headSpec wsX12_type ({ frames := 0, cells := 0, slots := 0, locals := 0 } : Room)).room s m (List.toArray [.ref om, .long (hz_l y1), .int (hz_i y3)]) below meth c H locs 0 0 QQ (F0 m 38 ls [])) := ⟨fun (x4 : Int) (x5 : Int) => ∀ (H : Heap) (locs : List Loc) (ls : Array Slot), va_P D vwCl (mw_w om R C z A) H → va_D Ad (mw_w om R C z A) → va_S Ad s.heap H locs → lv_has ls 8 [(0, .ref om), (1, .long (hz_l y1)), (3, .int (hz_i y3)), (4, .int (hz_i x4)), (5, .int (hz_i x5))] → W p l e (headSpec wsX12_type ({ frames := 0, cells := 0, slots := 0, locals := 0 } : Room)).room s m (List.toArray [.ref om, .long (hz_l y1), .int (hz_i y3)]) below meth c H locs 0 0 QQ (F0 m 38 ls []), fun _ _ => Iff.rfl⟩
    refine (hP38 x4 x5).mp (hw P38 ?_)
    intro x4 x5 hw
    refine (hP38 x4 x5).mpr ?_
    intro H locs ls hP hD hS hl
    have L85 : ∀ (x5 : Int) (t0 : Int), wp_type_85 z A y1 y3 x5 t0 P38 Q → ∀ (H : Heap) (locs : List Loc) (ls : Array Slot), va_P D vwCl (mw_w om R C z A) H → va_D Ad (mw_w om R C z A) → va_S Ad s.heap H locs → lv_has ls 8 [(0, .ref om), (1, .long (hz_l y1)), (3, .int (hz_i y3)), (5, .int (hz_i x5))] → W p l e (headSpec wsX12_type ({ frames := 0, cells := 0, slots := 0, locals := 0 } : Room)).room s m (List.toArray [.ref om, .long (hz_l y1), .int (hz_i y3)]) below meth c H locs 0 0 QQ (F0 m 85 ls [.int (hz_i t0)]) := by
      intro x5 t0 hw H locs ls hP hD hS hl
      refine lv_istore (lv' := [(4, .int (hz_i t0)), (0, .ref om), (1, .long (hz_l y1)), (3, .int (hz_i y3)), (5, .int (hz_i x5))]) hx hb dX12_type_85 hl (by decide) rfl (fun ls hl => ?_)
      obtain ⟨x5_7, hx5_7⟩ : ∃ y : Int, y = x5 + 1 := ⟨_, rfl⟩
      have hw := hw x5_7 hx5_7
      refine lv_iinc (v := hz_i x5_7) (lv' := [(5, .int (hz_i x5_7)), (4, .int (hz_i t0)), (0, .ref om), (1, .long (hz_l y1)), (3, .int (hz_i y3))]) hx hb dX12_type_87 hl (k := 4) rfl (by rw [hx5_7]; exact hz_i_add _ _) (by decide) rfl (fun ls hl => ?_)
      refine lv_goto (tgt := 38) hx hb dX12_type_90 (by decide) ?_
      exact (hP38 t0 x5_7).mp hw H locs ls hP hD hS (lv_sub hl [2, 3, 4, 1, 0] rfl)
    have L84 : ∀ (x5 : Int), wp_type_84 z A y1 y3 x5 P38 Q → ∀ (H : Heap) (locs : List Loc) (ls : Array Slot), va_P D vwCl (mw_w om R C z A) H → va_D Ad (mw_w om R C z A) → va_S Ad s.heap H locs → lv_has ls 8 [(0, .ref om), (1, .long (hz_l y1)), (3, .int (hz_i y3)), (5, .int (hz_i x5))] → W p l e (headSpec wsX12_type ({ frames := 0, cells := 0, slots := 0, locals := 0 } : Room)).room s m (List.toArray [.ref om, .long (hz_l y1), .int (hz_i y3)]) below meth c H locs 0 0 QQ (F0 m 84 ls []) := by
      intro x5 hw H locs ls hP hD hS hl
      refine lv_iconst (v := hz_i 0) hx hb dX12_type_84 (by decide +kernel) ?_
      exact L85 x5 0 hw H locs ls hP hD hS (lv_sub hl [0, 1, 2, 3] rfl)
    refine lv_iload hx hb dX12_type_38 (lv_at hl 3 rfl) ?_
    obtain ⟨h9a, hw⟩ := hw
    refine hz_if_eq (tgt := 93) hx hb dX12_type_40 (by decide) h9a (fun c_8 => ?_) (fun c_8 => ?_)
    · have hw := hw.1 c_8
      exact L93 z A x4 hw H locs ls hP hD hS (lv_sub hl [0, 1, 2, 3] rfl)
    · have hw := hw.2 c_8
      refine lv_iload hx hb dX12_type_43 (lv_at hl 4 rfl) ?_
      refine lv_iload_n hx hb dX12_type_45 rfl (lv_at hl 2 rfl) ?_
      obtain ⟨h9a, hw⟩ := hw
      obtain ⟨h9b, hw⟩ := hw
      refine hz_icmp_ge (tgt := 93) hx hb dX12_type_46 (by decide) h9a h9b (fun c_9 => ?_) (fun c_9 => ?_)
      · have hw := hw.1 c_9
        exact L93 z A x4 hw H locs ls hP hD hS (lv_sub hl [0, 1, 2, 3] rfl)
      · have hw := hw.2 c_9
        refine lv_lload_n hx hb dX12_type_49 rfl (lv_at hl 1 rfl) ?_
        refine lv_bipush (v := hz_i 8) hx hb dX12_type_50 (by decide +kernel) ?_
        refine lv_iload hx hb dX12_type_52 (lv_at hl 4 rfl) ?_
        refine hz_imul hx hb dX12_type_54 ?_
        obtain ⟨h9a, h9b, hw⟩ := hw
        refine hz_wlshrv hx hb dX12_type_55 h9a h9b ?_
        refine lv_ldc2 hx hb hown (hts (.constantLong RX12 229 (255)) (List.mem_cons_of_mem _ (List.mem_append_left _ (List.mem_of_getElem? (i := 2) rfl)))) dX12_type_56 ?_
        refine hz_asl (b := 255) (by decide +kernel) ?_
        obtain ⟨h9a, hw⟩ := hw
        refine hz_wland (P := 256) hx hb 8 dX12_type_59 (by decide) (by decide +kernel) (by decide +kernel) h9a ?_
        refine hz_topl (fun x6_10 hx6_10 => ?_)
        have hw := hw x6_10 hx6_10
        refine lv_lstore (lv' := [(6, .long (hz_l x6_10)), (0, .ref om), (1, .long (hz_l y1)), (3, .int (hz_i y3)), (4, .int (hz_i x4)), (5, .int (hz_i x5))]) hx hb dX12_type_60 hl (by decide) rfl (fun ls hl => ?_)
        refine lv_lload hx hb dX12_type_62 (lv_at hl 0 rfl) ?_
        refine lv_ldc2 hx hb hown (hts (.constantLong RX12 231 (32)) (List.mem_cons_of_mem _ (List.mem_append_left _ (List.mem_of_getElem? (i := 3) rfl)))) dX12_type_64 ?_
        refine hz_asl (b := 32) (by decide +kernel) ?_
        obtain ⟨h9a, hw⟩ := hw
        refine hz_lcmp_lt (tgt := 84) hx hb dX12_type_67 dX12_type_68 (by decide) h9a ⟨by decide, by decide⟩ (fun c_11 => ?_) (fun c_11 => ?_)
        · have hw := hw.1 c_11
          exact L84 x5 hw H locs ls hP hD hS (lv_sub hl [1, 2, 3, 5] rfl)
        · have hw := hw.2 c_11
          refine lv_lload hx hb dX12_type_71 (lv_at hl 0 rfl) ?_
          refine lv_ldc2 hx hb hown (hts (.constantLong RX12 233 (126)) (List.mem_cons_of_mem _ (List.mem_append_left _ (List.mem_of_getElem? (i := 4) rfl)))) dX12_type_73 ?_
          refine hz_asl (b := 126) (by decide +kernel) ?_
          obtain ⟨h9a, hw⟩ := hw
          refine hz_lcmp_gt (tgt := 84) hx hb dX12_type_76 dX12_type_77 (by decide) h9a ⟨by decide, by decide⟩ (fun c_12 => ?_) (fun c_12 => ?_)
          · have hw := hw.1 c_12
            exact L84 x5 hw H locs ls hP hD hS (lv_sub hl [1, 2, 3, 5] rfl)
          · have hw := hw.2 c_12
            refine lv_iconst (v := hz_i 1) hx hb dX12_type_80 (by decide +kernel) ?_
            refine lv_goto (tgt := 85) hx hb dX12_type_81 (by decide) ?_
            exact L85 x5 1 hw H locs ls hP hD hS (lv_sub hl [1, 2, 3, 5] rfl)
  have L33 : ∀ (z : Nat → Int) (A : Nat → Nat → Int) (t0 : Int), wp_type_33 z A y1 y3 t0  Q → ∀ (H : Heap) (locs : List Loc) (ls : Array Slot), va_P D vwCl (mw_w om R C z A) H → va_D Ad (mw_w om R C z A) → va_S Ad s.heap H locs → lv_has ls 8 [(0, .ref om), (1, .long (hz_l y1)), (3, .int (hz_i y3))] → W p l e (headSpec wsX12_type ({ frames := 0, cells := 0, slots := 0, locals := 0 } : Room)).room s m (List.toArray [.ref om, .long (hz_l y1), .int (hz_i y3)]) below meth c H locs 0 0 QQ (F0 m 33 ls [.int (hz_i t0)]) := by
    intro z A t0 hw H locs ls hP hD hS hl
    refine lv_istore (lv' := [(4, .int (hz_i t0)), (0, .ref om), (1, .long (hz_l y1)), (3, .int (hz_i y3))]) hx hb dX12_type_33 hl (by decide) rfl (fun ls hl => ?_)
    refine lv_iconst (v := hz_i 0) hx hb dX12_type_35 (by decide +kernel) ?_
    refine lv_istore (lv' := [(5, .int (hz_i 0)), (4, .int (hz_i t0)), (0, .ref om), (1, .long (hz_l y1)), (3, .int (hz_i y3))]) hx hb dX12_type_36 hl (by decide) rfl (fun ls hl => ?_)
    exact L38 z A t0 0 hw H locs ls hP hD hS (lv_sub hl [2, 3, 4, 1, 0] rfl)
  have L32 : ∀ (z : Nat → Int) (A : Nat → Nat → Int), wp_type_32 z A y1 y3  Q → ∀ (H : Heap) (locs : List Loc) (ls : Array Slot), va_P D vwCl (mw_w om R C z A) H → va_D Ad (mw_w om R C z A) → va_S Ad s.heap H locs → lv_has ls 8 [(0, .ref om), (1, .long (hz_l y1)), (3, .int (hz_i y3))] → W p l e (headSpec wsX12_type ({ frames := 0, cells := 0, slots := 0, locals := 0 } : Room)).room s m (List.toArray [.ref om, .long (hz_l y1), .int (hz_i y3)]) below meth c H locs 0 0 QQ (F0 m 32 ls []) := by
    intro z A hw H locs ls hP hD hS hl
    refine lv_iconst (v := hz_i 0) hx hb dX12_type_32 (by decide +kernel) ?_
    exact L33 z A 0 hw H locs ls hP hD hS (lv_sub hl [0, 1, 2] rfl)
  have hP := hP0; have hD := hD0; have hS := hS0; have hl := hl0; have hw := hw0
  obtain ⟨H, hH⟩ : ∃ H : Heap, H = s.heap := ⟨_, rfl⟩
  obtain ⟨locs, hlocs⟩ : ∃ L : List Loc, L = [] := ⟨_, rfl⟩
  rw [← hH] at hP
  have hS : va_S Ad s.heap H locs := by rw [hH, hlocs]; exact hS
  refine mw_HL hH hlocs ?_
  refine lv_aload_n hx hb dX12_type_0 rfl (lv_at hl 0 rfl) ?_
  refine lv_iconst (v := hz_i 0) hx hb dX12_type_1 (by decide +kernel) ?_
  refine mw_put (ty := .int) (v := .int (hz_i 0)) hx hb hts hin12 hown hK hP hD hS 3 (by decide) (hts (.fieldLink RX12 223 "HiddenMovesModel" "thrown" "I") (List.mem_cons_of_mem _ (List.mem_append_left _ (List.mem_of_getElem? (i := 0) rfl)))) (fun _ h9 => h9) rfl (by decide +kernel) rfl rfl (mw_s3 R z 0) dX12_type_2 (fun H locs hP hD hS => ?_)
  obtain ⟨z_13, hz_13⟩ : ∃ y : Nat → Int, y = lp_U z 3 0 := ⟨_, rfl⟩
  rw [← hz_13] at hP hD
  have hw := hw z_13 hz_13
  refine lv_iload_n hx hb dX12_type_5 rfl (lv_at hl 2 rfl) ?_
  refine lv_iconst (v := hz_i 1) hx hb dX12_type_6 (by decide +kernel) ?_
  obtain ⟨h9a, hw⟩ := hw
  refine hz_icmp_lt (tgt := 32) hx hb dX12_type_7 (by decide) h9a ⟨by decide, by decide⟩ (fun c_14 => ?_) (fun c_14 => ?_)
  · have hw := hw.1 c_14
    exact L32 z_13 A hw H locs ls hP hD hS (lv_sub hl [0, 1, 2] rfl)
  · have hw := hw.2 c_14
    refine lv_iload_n hx hb dX12_type_10 rfl (lv_at hl 2 rfl) ?_
    refine lv_bipush (v := hz_i 8) hx hb dX12_type_11 (by decide +kernel) ?_
    obtain ⟨h9a, hw⟩ := hw
    refine hz_icmp_gt (tgt := 32) hx hb dX12_type_13 (by decide) h9a ⟨by decide, by decide⟩ (fun c_15 => ?_) (fun c_15 => ?_)
    · have hw := hw.1 c_15
      exact L32 z_13 A hw H locs ls hP hD hS (lv_sub hl [0, 1, 2] rfl)
    · have hw := hw.2 c_15
      refine lv_aload_n hx hb dX12_type_16 rfl (lv_at hl 0 rfl) ?_
      refine mw_get (v := .int (hz_i (z_13 5))) hx hb hts hin12 hown hK hP 5 (by decide) (hts (.fieldLink RX12 226 "HiddenMovesModel" "length" "I") (List.mem_cons_of_mem _ (List.mem_append_left _ (List.mem_of_getElem? (i := 1) rfl)))) (fun _ h9 => h9) rfl dX12_type_17 ?_
      refine lv_iload_n hx hb dX12_type_20 rfl (lv_at hl 2 rfl) ?_
      refine hz_iadd hx hb dX12_type_21 ?_
      refine lv_sipush (v := hz_i 4000) hx hb dX12_type_22 (by decide +kernel) ?_
      obtain ⟨h9a, hw⟩ := hw
      refine hz_icmp_gt (tgt := 32) hx hb dX12_type_25 (by decide) h9a ⟨by decide, by decide⟩ (fun c_16 => ?_) (fun c_16 => ?_)
      · have hw := hw.1 c_16
        exact L32 z_13 A hw H locs ls hP hD hS (lv_sub hl [0, 1, 2] rfl)
      · have hw := hw.2 c_16
        refine lv_iconst (v := hz_i 1) hx hb dX12_type_28 (by decide +kernel) ?_
        refine lv_goto (tgt := 33) hx hb dX12_type_29 (by decide) ?_
        exact L33 z_13 A 1 hw H locs ls hP hD hS (lv_sub hl [0, 1, 2] rfl)

noncomputable def wp_isDigit_17 (z : Nat → Int) (A : Nat → Nat → Int) (t0 : Int) (Q : Int → Prop) : Prop := (t0 = 0 ∨ t0 = 1) ∧ Q t0
noncomputable def wp_isDigit_16 (z : Nat → Int) (A : Nat → Nat → Int) (Q : Int → Prop) : Prop := wp_isDigit_17 z A 0  Q
noncomputable def wp_isDigit (z : Nat → Int) (A : Nat → Nat → Int) (y0 : Int) (Q : Int → Prop) : Prop := hz_rI y0 ∧ ((y0 < 48 → wp_isDigit_16 z A  Q) ∧ (¬ (y0 < 48) → hz_rI y0 ∧ ((57 < y0 → wp_isDigit_16 z A  Q) ∧ (¬ (57 < y0) → wp_isDigit_17 z A 1  Q))))
set_option maxHeartbeats 4000000 in
set_option maxRecDepth 100000 in
theorem k_isDigit (l : Launch) (D : va_G) (sz : Nat) (om : Nat) (R : Nat → Nat) (C : Nat → ClassId) (z : Nat → Int) (A : Nat → Nat → Int) (y0 : Int) (Q : Int → Prop) (hw : wp_isDigit z A y0 Q) : Met l yX12_isDigit wsX12_isDigit ({ frames := 0, cells := 0, slots := 0, locals := 0 } : Room) (va_Pc [.int (hz_i y0)] (hm_P D (mw_w om R C z A) (mw_t C) sz)) (va_Qi (S := Int × (Nat → Int) × (Nat → Nat → Int)) (fun r u => r = hz_i u.1 ∧ Q u.1) (fun u t => hm_B D (va_A (mw_w om R C z A) sz) (mw_w om R C z A) (mw_t C) t) (va_A (mw_w om R C z A) sz)) 0 0 (va_A (mw_w om R C z A) sz) := by
  refine Met.ofW (cc := cX12_isDigit) (maxL := 1) (ret := (some .boolean)) (by decide) rfl ?_
  intro p e s m args below meth c s₁ B hml hv
  obtain ⟨rfl, hsz, hP, hK, hD0, hE⟩ := hv
  have hx := B.exec
  have hb := B.bytes
  have hr := B.returns
  have hts := atoms_spec (ws := wsX12_isDigit) B.pre
  have hown : s.vm.findClass RX12 = some m.cls := findClass_of_methodNamed B.named
  have hlocks := B.notSynchronized
  subst hsz
  have hD := hD0.self (sz := s.heap.size)
  generalize hAe : va_A (mw_w om R C z A) s.heap.size = Ad at hD ⊢
  have hA : ∀ q : Nat, s.heap.size ≤ q → Ad q := fun q h => by rw [← hAe]; exact Or.inr h
  have hS : va_S Ad s.heap s.heap [] := va_S.rf
  have hl := lv_entry ([.int (hz_i y0)]) (n := 1) (Nat.le_of_ble_eq_true rfl)
  rw [lg_entry_eq]
  generalize (lg_sl ([.int (hz_i y0)]) ++ List.replicate (1 - (lg_sl ([.int (hz_i y0)])).length) Slot.unset).toArray = ls at hl ⊢
  have hl : lv_has ls 1 [(0, .int (hz_i y0))] := hl
  refine mw_Q (fun QQ hQQ => ?_)
  have hP0 := hP; have hD0 := hD; have hS0 := hS; have hl0 := hl; have hw0 := hw
  clear hP hD hS hl hw
  have L17 : ∀ (t0 : Int), wp_isDigit_17 z A t0  Q → ∀ (H : Heap) (locs : List Loc) (ls : Array Slot), va_P D vwCl (mw_w om R C z A) H → va_D Ad (mw_w om R C z A) → va_S Ad s.heap H locs → lv_has ls 1 [] → W p l e (headSpec wsX12_isDigit ({ frames := 0, cells := 0, slots := 0, locals := 0 } : Room)).room s m (List.toArray [.int (hz_i y0)]) below meth c H locs 0 0 QQ (F0 m 17 ls [.int (hz_i t0)]) := by
    intro t0 hw H locs ls hP hD hS hl
    obtain ⟨h9z, hw⟩ := hw
    subst hQQ
    subst hAe
    exact W.zret (v := hz_i t0) hx hb hr (hz_tZ h9z) (fun t ht hW => ⟨⟨hz_i t0, (t0, z, A), rfl, ⟨rfl, hw⟩, by rw [ht]; exact hP, va_K.moved hW.alike hK, hD⟩, hS.F ht⟩) hS.2.2 dX12_isDigit_17
  have L16 : wp_isDigit_16 z A  Q → ∀ (H : Heap) (locs : List Loc) (ls : Array Slot), va_P D vwCl (mw_w om R C z A) H → va_D Ad (mw_w om R C z A) → va_S Ad s.heap H locs → lv_has ls 1 [] → W p l e (headSpec wsX12_isDigit ({ frames := 0, cells := 0, slots := 0, locals := 0 } : Room)).room s m (List.toArray [.int (hz_i y0)]) below meth c H locs 0 0 QQ (F0 m 16 ls []) := by
    intro  hw H locs ls hP hD hS hl
    refine lv_iconst (v := hz_i 0) hx hb dX12_isDigit_16 (by decide +kernel) ?_
    exact L17 0 hw H locs ls hP hD hS (lv_sub hl [] rfl)
  have hP := hP0; have hD := hD0; have hS := hS0; have hl := hl0; have hw := hw0
  obtain ⟨H, hH⟩ : ∃ H : Heap, H = s.heap := ⟨_, rfl⟩
  obtain ⟨locs, hlocs⟩ : ∃ L : List Loc, L = [] := ⟨_, rfl⟩
  rw [← hH] at hP
  have hS : va_S Ad s.heap H locs := by rw [hH, hlocs]; exact hS
  refine mw_HL hH hlocs ?_
  refine lv_iload_n hx hb dX12_isDigit_0 rfl (lv_at hl 0 rfl) ?_
  refine lv_bipush (v := hz_i 48) hx hb dX12_isDigit_1 (by decide +kernel) ?_
  obtain ⟨h9a, hw⟩ := hw
  refine hz_icmp_lt (tgt := 16) hx hb dX12_isDigit_3 (by decide) h9a ⟨by decide, by decide⟩ (fun c_1 => ?_) (fun c_1 => ?_)
  · have hw := hw.1 c_1
    exact L16  hw H locs ls hP hD hS (lv_sub hl [] rfl)
  · have hw := hw.2 c_1
    refine lv_iload_n hx hb dX12_isDigit_6 rfl (lv_at hl 0 rfl) ?_
    refine lv_bipush (v := hz_i 57) hx hb dX12_isDigit_7 (by decide +kernel) ?_
    obtain ⟨h9a, hw⟩ := hw
    refine hz_icmp_gt (tgt := 16) hx hb dX12_isDigit_9 (by decide) h9a ⟨by decide, by decide⟩ (fun c_2 => ?_) (fun c_2 => ?_)
    · have hw := hw.1 c_2
      exact L16  hw H locs ls hP hD hS (lv_sub hl [] rfl)
    · have hw := hw.2 c_2
      refine lv_iconst (v := hz_i 1) hx hb dX12_isDigit_12 (by decide +kernel) ?_
      refine lv_goto (tgt := 17) hx hb dX12_isDigit_13 (by decide) ?_
      exact L17 1 hw H locs ls hP hD hS (lv_sub hl [] rfl)

noncomputable def wp_isSign_71 (z : Nat → Int) (A : Nat → Nat → Int) (t0 : Int) (Q : Int → Prop) : Prop := (t0 = 0 ∨ t0 = 1) ∧ Q t0
noncomputable def wp_isSign_66 (z : Nat → Int) (A : Nat → Nat → Int) (Q : Int → Prop) : Prop := wp_isSign_71 z A 1  Q
noncomputable def wp_isSign (z : Nat → Int) (A : Nat → Nat → Int) (y0 : Int) (Q : Int → Prop) : Prop := hz_rI y0 ∧ ((y0 = 65 → wp_isSign_66 z A  Q) ∧ (¬ (y0 = 65) → hz_rI y0 ∧ ((y0 = 66 → wp_isSign_66 z A  Q) ∧ (¬ (y0 = 66) → hz_rI y0 ∧ ((y0 = 63 → wp_isSign_66 z A  Q) ∧ (¬ (y0 = 63) → hz_rI y0 ∧ ((y0 = 40 → wp_isSign_66 z A  Q) ∧ (¬ (y0 = 40) → hz_rI y0 ∧ ((y0 = 41 → wp_isSign_66 z A  Q) ∧ (¬ (y0 = 41) → hz_rI y0 ∧ ((y0 = 91 → wp_isSign_66 z A  Q) ∧ (¬ (y0 = 91) → hz_rI y0 ∧ ((y0 = 93 → wp_isSign_66 z A  Q) ∧ (¬ (y0 = 93) → hz_rI y0 ∧ ((y0 = 58 → wp_isSign_66 z A  Q) ∧ (¬ (y0 = 58) → hz_rI y0 ∧ ((y0 = 44 → wp_isSign_66 z A  Q) ∧ (¬ (y0 = 44) → hz_rI y0 ∧ ((y0 = 45 → wp_isSign_66 z A  Q) ∧ (¬ (y0 = 45) → hz_rI y0 ∧ ((¬ y0 = 47 → wp_isSign_71 z A 0  Q) ∧ (y0 = 47 → wp_isSign_66 z A  Q))))))))))))))))))))))
set_option maxHeartbeats 4000000 in
set_option maxRecDepth 100000 in
theorem k_isSign (l : Launch) (D : va_G) (sz : Nat) (om : Nat) (R : Nat → Nat) (C : Nat → ClassId) (z : Nat → Int) (A : Nat → Nat → Int) (y0 : Int) (Q : Int → Prop) (hw : wp_isSign z A y0 Q) : Met l yX12_isSign wsX12_isSign ({ frames := 0, cells := 0, slots := 0, locals := 0 } : Room) (va_Pc [.int (hz_i y0)] (hm_P D (mw_w om R C z A) (mw_t C) sz)) (va_Qi (S := Int × (Nat → Int) × (Nat → Nat → Int)) (fun r u => r = hz_i u.1 ∧ Q u.1) (fun u t => hm_B D (va_A (mw_w om R C z A) sz) (mw_w om R C z A) (mw_t C) t) (va_A (mw_w om R C z A) sz)) 0 0 (va_A (mw_w om R C z A) sz) := by
  refine Met.ofW (cc := cX12_isSign) (maxL := 1) (ret := (some .boolean)) (by decide) rfl ?_
  intro p e s m args below meth c s₁ B hml hv
  obtain ⟨rfl, hsz, hP, hK, hD0, hE⟩ := hv
  have hx := B.exec
  have hb := B.bytes
  have hr := B.returns
  have hts := atoms_spec (ws := wsX12_isSign) B.pre
  have hown : s.vm.findClass RX12 = some m.cls := findClass_of_methodNamed B.named
  have hlocks := B.notSynchronized
  subst hsz
  have hD := hD0.self (sz := s.heap.size)
  generalize hAe : va_A (mw_w om R C z A) s.heap.size = Ad at hD ⊢
  have hA : ∀ q : Nat, s.heap.size ≤ q → Ad q := fun q h => by rw [← hAe]; exact Or.inr h
  have hS : va_S Ad s.heap s.heap [] := va_S.rf
  have hl := lv_entry ([.int (hz_i y0)]) (n := 1) (Nat.le_of_ble_eq_true rfl)
  rw [lg_entry_eq]
  generalize (lg_sl ([.int (hz_i y0)]) ++ List.replicate (1 - (lg_sl ([.int (hz_i y0)])).length) Slot.unset).toArray = ls at hl ⊢
  have hl : lv_has ls 1 [(0, .int (hz_i y0))] := hl
  refine mw_Q (fun QQ hQQ => ?_)
  have hP0 := hP; have hD0 := hD; have hS0 := hS; have hl0 := hl; have hw0 := hw
  clear hP hD hS hl hw
  have L71 : ∀ (t0 : Int), wp_isSign_71 z A t0  Q → ∀ (H : Heap) (locs : List Loc) (ls : Array Slot), va_P D vwCl (mw_w om R C z A) H → va_D Ad (mw_w om R C z A) → va_S Ad s.heap H locs → lv_has ls 1 [] → W p l e (headSpec wsX12_isSign ({ frames := 0, cells := 0, slots := 0, locals := 0 } : Room)).room s m (List.toArray [.int (hz_i y0)]) below meth c H locs 0 0 QQ (F0 m 71 ls [.int (hz_i t0)]) := by
    intro t0 hw H locs ls hP hD hS hl
    obtain ⟨h9z, hw⟩ := hw
    subst hQQ
    subst hAe
    exact W.zret (v := hz_i t0) hx hb hr (hz_tZ h9z) (fun t ht hW => ⟨⟨hz_i t0, (t0, z, A), rfl, ⟨rfl, hw⟩, by rw [ht]; exact hP, va_K.moved hW.alike hK, hD⟩, hS.F ht⟩) hS.2.2 dX12_isSign_71
  have L66 : wp_isSign_66 z A  Q → ∀ (H : Heap) (locs : List Loc) (ls : Array Slot), va_P D vwCl (mw_w om R C z A) H → va_D Ad (mw_w om R C z A) → va_S Ad s.heap H locs → lv_has ls 1 [] → W p l e (headSpec wsX12_isSign ({ frames := 0, cells := 0, slots := 0, locals := 0 } : Room)).room s m (List.toArray [.int (hz_i y0)]) below meth c H locs 0 0 QQ (F0 m 66 ls []) := by
    intro  hw H locs ls hP hD hS hl
    refine lv_iconst (v := hz_i 1) hx hb dX12_isSign_66 (by decide +kernel) ?_
    refine lv_goto (tgt := 71) hx hb dX12_isSign_67 (by decide) ?_
    exact L71 1 hw H locs ls hP hD hS (lv_sub hl [] rfl)
  have hP := hP0; have hD := hD0; have hS := hS0; have hl := hl0; have hw := hw0
  obtain ⟨H, hH⟩ : ∃ H : Heap, H = s.heap := ⟨_, rfl⟩
  obtain ⟨locs, hlocs⟩ : ∃ L : List Loc, L = [] := ⟨_, rfl⟩
  rw [← hH] at hP
  have hS : va_S Ad s.heap H locs := by rw [hH, hlocs]; exact hS
  refine mw_HL hH hlocs ?_
  refine lv_iload_n hx hb dX12_isSign_0 rfl (lv_at hl 0 rfl) ?_
  refine lv_bipush (v := hz_i 65) hx hb dX12_isSign_1 (by decide +kernel) ?_
  obtain ⟨h9a, hw⟩ := hw
  refine hz_icmp_eq (tgt := 66) hx hb dX12_isSign_3 (by decide) h9a ⟨by decide, by decide⟩ (fun c_1 => ?_) (fun c_1 => ?_)
  · have hw := hw.1 c_1
    exact L66  hw H locs ls hP hD hS (lv_sub hl [] rfl)
  · have hw := hw.2 c_1
    refine lv_iload_n hx hb dX12_isSign_6 rfl (lv_at hl 0 rfl) ?_
    refine lv_bipush (v := hz_i 66) hx hb dX12_isSign_7 (by decide +kernel) ?_
    obtain ⟨h9a, hw⟩ := hw
    refine hz_icmp_eq (tgt := 66) hx hb dX12_isSign_9 (by decide) h9a ⟨by decide, by decide⟩ (fun c_2 => ?_) (fun c_2 => ?_)
    · have hw := hw.1 c_2
      exact L66  hw H locs ls hP hD hS (lv_sub hl [] rfl)
    · have hw := hw.2 c_2
      refine lv_iload_n hx hb dX12_isSign_12 rfl (lv_at hl 0 rfl) ?_
      refine lv_bipush (v := hz_i 63) hx hb dX12_isSign_13 (by decide +kernel) ?_
      obtain ⟨h9a, hw⟩ := hw
      refine hz_icmp_eq (tgt := 66) hx hb dX12_isSign_15 (by decide) h9a ⟨by decide, by decide⟩ (fun c_3 => ?_) (fun c_3 => ?_)
      · have hw := hw.1 c_3
        exact L66  hw H locs ls hP hD hS (lv_sub hl [] rfl)
      · have hw := hw.2 c_3
        refine lv_iload_n hx hb dX12_isSign_18 rfl (lv_at hl 0 rfl) ?_
        refine lv_bipush (v := hz_i 40) hx hb dX12_isSign_19 (by decide +kernel) ?_
        obtain ⟨h9a, hw⟩ := hw
        refine hz_icmp_eq (tgt := 66) hx hb dX12_isSign_21 (by decide) h9a ⟨by decide, by decide⟩ (fun c_4 => ?_) (fun c_4 => ?_)
        · have hw := hw.1 c_4
          exact L66  hw H locs ls hP hD hS (lv_sub hl [] rfl)
        · have hw := hw.2 c_4
          refine lv_iload_n hx hb dX12_isSign_24 rfl (lv_at hl 0 rfl) ?_
          refine lv_bipush (v := hz_i 41) hx hb dX12_isSign_25 (by decide +kernel) ?_
          obtain ⟨h9a, hw⟩ := hw
          refine hz_icmp_eq (tgt := 66) hx hb dX12_isSign_27 (by decide) h9a ⟨by decide, by decide⟩ (fun c_5 => ?_) (fun c_5 => ?_)
          · have hw := hw.1 c_5
            exact L66  hw H locs ls hP hD hS (lv_sub hl [] rfl)
          · have hw := hw.2 c_5
            refine lv_iload_n hx hb dX12_isSign_30 rfl (lv_at hl 0 rfl) ?_
            refine lv_bipush (v := hz_i 91) hx hb dX12_isSign_31 (by decide +kernel) ?_
            obtain ⟨h9a, hw⟩ := hw
            refine hz_icmp_eq (tgt := 66) hx hb dX12_isSign_33 (by decide) h9a ⟨by decide, by decide⟩ (fun c_6 => ?_) (fun c_6 => ?_)
            · have hw := hw.1 c_6
              exact L66  hw H locs ls hP hD hS (lv_sub hl [] rfl)
            · have hw := hw.2 c_6
              refine lv_iload_n hx hb dX12_isSign_36 rfl (lv_at hl 0 rfl) ?_
              refine lv_bipush (v := hz_i 93) hx hb dX12_isSign_37 (by decide +kernel) ?_
              obtain ⟨h9a, hw⟩ := hw
              refine hz_icmp_eq (tgt := 66) hx hb dX12_isSign_39 (by decide) h9a ⟨by decide, by decide⟩ (fun c_7 => ?_) (fun c_7 => ?_)
              · have hw := hw.1 c_7
                exact L66  hw H locs ls hP hD hS (lv_sub hl [] rfl)
              · have hw := hw.2 c_7
                refine lv_iload_n hx hb dX12_isSign_42 rfl (lv_at hl 0 rfl) ?_
                refine lv_bipush (v := hz_i 58) hx hb dX12_isSign_43 (by decide +kernel) ?_
                obtain ⟨h9a, hw⟩ := hw
                refine hz_icmp_eq (tgt := 66) hx hb dX12_isSign_45 (by decide) h9a ⟨by decide, by decide⟩ (fun c_8 => ?_) (fun c_8 => ?_)
                · have hw := hw.1 c_8
                  exact L66  hw H locs ls hP hD hS (lv_sub hl [] rfl)
                · have hw := hw.2 c_8
                  refine lv_iload_n hx hb dX12_isSign_48 rfl (lv_at hl 0 rfl) ?_
                  refine lv_bipush (v := hz_i 44) hx hb dX12_isSign_49 (by decide +kernel) ?_
                  obtain ⟨h9a, hw⟩ := hw
                  refine hz_icmp_eq (tgt := 66) hx hb dX12_isSign_51 (by decide) h9a ⟨by decide, by decide⟩ (fun c_9 => ?_) (fun c_9 => ?_)
                  · have hw := hw.1 c_9
                    exact L66  hw H locs ls hP hD hS (lv_sub hl [] rfl)
                  · have hw := hw.2 c_9
                    refine lv_iload_n hx hb dX12_isSign_54 rfl (lv_at hl 0 rfl) ?_
                    refine lv_bipush (v := hz_i 45) hx hb dX12_isSign_55 (by decide +kernel) ?_
                    obtain ⟨h9a, hw⟩ := hw
                    refine hz_icmp_eq (tgt := 66) hx hb dX12_isSign_57 (by decide) h9a ⟨by decide, by decide⟩ (fun c_10 => ?_) (fun c_10 => ?_)
                    · have hw := hw.1 c_10
                      exact L66  hw H locs ls hP hD hS (lv_sub hl [] rfl)
                    · have hw := hw.2 c_10
                      refine lv_iload_n hx hb dX12_isSign_60 rfl (lv_at hl 0 rfl) ?_
                      refine lv_bipush (v := hz_i 47) hx hb dX12_isSign_61 (by decide +kernel) ?_
                      obtain ⟨h9a, hw⟩ := hw
                      refine hz_icmp_ne (tgt := 70) hx hb dX12_isSign_63 (by decide) h9a ⟨by decide, by decide⟩ (fun c_11 => ?_) (fun c_11 => ?_)
                      · have hw := hw.1 c_11
                        refine lv_iconst (v := hz_i 0) hx hb dX12_isSign_70 (by decide +kernel) ?_
                        exact L71 0 hw H locs ls hP hD hS (lv_sub hl [] rfl)
                      · have hw := hw.2 c_11
                        exact L66  hw H locs ls hP hD hS (lv_sub hl [] rfl)

noncomputable def wp_cut_243 (z : Nat → Int) (A : Nat → Nat → Int) (Q : (Nat → Int) → (Nat → Nat → Int) → Prop) : Prop := Q z A
noncomputable def wp_cut_237 (z : Nat → Int) (A : Nat → Nat → Int) (x1 : Int) (x4 : Int) (P9 : (Nat → Int) → (Nat → Nat → Int) → Int → Int → Prop) (Q : (Nat → Int) → (Nat → Nat → Int) → Prop) : Prop := P9 z A x1 x4
noncomputable def wp_cut_226 (z : Nat → Int) (A : Nat → Nat → Int) (x4 : Int) (t0 : Int) (P9 : (Nat → Int) → (Nat → Nat → Int) → Int → Int → Prop) (Q : (Nat → Int) → (Nat → Nat → Int) → Prop) : Prop := ∀ z_1 : Nat → Int, z_1 = lp_U z 10 ((z 10) + 1) → wp_cut_237 z_1 A t0 x4 P9 Q
noncomputable def wp_cut_208 (z : Nat → Int) (A : Nat → Nat → Int) (x4 : Int) (P9 : (Nat → Int) → (Nat → Nat → Int) → Int → Int → Prop) (Q : (Nat → Int) → (Nat → Nat → Int) → Prop) : Prop := (0 ≤ z 10 ∧ z 10 < 4001) ∧ hz_rI (A 7 ((z 10).toNat)) ∧ ((A 7 ((z 10).toNat) = 2 → wp_cut_226 z A x4 0 P9 Q) ∧ (¬ (A 7 ((z 10).toNat) = 2) → wp_cut_226 z A x4 1 P9 Q))
noncomputable def wp_cut_207 (z : Nat → Int) (A : Nat → Nat → Int) (x4 : Int) (t0 : Int) (t1 : Int) (P9 : (Nat → Int) → (Nat → Nat → Int) → Int → Int → Prop) (Q : (Nat → Int) → (Nat → Nat → Int) → Prop) : Prop := (0 ≤ t1 ∧ t1 < 4001) ∧ ∀ A_3 : Nat → Nat → Int, A_3 = hz_s A 7 t1 t0 → wp_cut_208 z A_3 x4 P9 Q
noncomputable def wp_cut_186 (z : Nat → Int) (A : Nat → Nat → Int) (x2 : Int) (x4 : Int) (P9 : (Nat → Int) → (Nat → Nat → Int) → Int → Int → Prop) (Q : (Nat → Int) → (Nat → Nat → Int) → Prop) : Prop := hz_rI (x4 - x2) ∧ ((x4 - x2 ≤ 4 → wp_cut_207 z A x4 1 (z 10) P9 Q) ∧ (¬ (x4 - x2 ≤ 4) → wp_cut_207 z A x4 2 (z 10) P9 Q))
noncomputable def wp_cut_179 (z : Nat → Int) (A : Nat → Nat → Int) (x2 : Int) (x4 : Int) (t0 : Int) (t1 : Int) (P9 : (Nat → Int) → (Nat → Nat → Int) → Int → Int → Prop) (P114 : (Nat → Nat → Int) → Int → Prop) (Q : (Nat → Int) → (Nat → Nat → Int) → Prop) : Prop := (0 ≤ t1 ∧ t1 < 4001) ∧ ∀ A_5 : Nat → Nat → Int, A_5 = hz_s A 9 t1 t0 → ∀ x4_6 : Int, x4_6 = x4 + 1 → P114 A_5 x4_6
noncomputable def wp_cut_114 (z : Nat → Int) (A : Nat → Nat → Int) (x2 : Int) (x4 : Int) (P9 : (Nat → Int) → (Nat → Nat → Int) → Int → Int → Prop) (Q : (Nat → Int) → (Nat → Nat → Int) → Prop) : Prop := ∀ P114 : (Nat → Nat → Int) → Int → Prop, (∀ (A : Nat → Nat → Int) (x4 : Int), hz_rI x4 ∧ hz_rI (z 5) ∧ ((z 5 ≤ x4 → wp_cut_186 z A x2 x4 P9 Q) ∧ (¬ (z 5 ≤ x4) → (0 ≤ x4 ∧ x4 < 4000) ∧ wp_isDigit z A (A 4 (x4.toNat)) (fun r_8 => hz_rI r_8 ∧ ((r_8 = 0 → wp_cut_186 z A x2 x4 P9 Q) ∧ (¬ (r_8 = 0) → hz_rI (x4 - x2) ∧ ((4 ≤ x4 - x2 → wp_cut_179 z A x2 x4 0 (z 10) P9 P114 Q) ∧ (¬ (4 ≤ x4 - x2) → (0 ≤ z 10 ∧ z 10 < 4001) ∧ (0 ≤ x4 ∧ x4 < 4000) ∧ wp_cut_179 z A x2 x4 (((10 * (A 9 ((z 10).toNat))) + (A 4 (x4.toNat))) - 48) (z 10) P9 P114 Q))))))) → P114 A x4) → P114 A x4
noncomputable def wp_cut_83 (z : Nat → Int) (A : Nat → Nat → Int) (x2 : Int) (x3 : Int) (x4 : Int) (t0 : Int) (t1 : Int) (P9 : (Nat → Int) → (Nat → Nat → Int) → Int → Int → Prop) (Q : (Nat → Int) → (Nat → Nat → Int) → Prop) : Prop := (0 ≤ t1 ∧ t1 < 4001) ∧ ∀ A_11 : Nat → Nat → Int, A_11 = hz_s A 7 t1 t0 → (0 ≤ z 10 ∧ z 10 < 4001) ∧ ∀ A_12 : Nat → Nat → Int, A_12 = hz_s A_11 8 (z 10) x2 → (0 ≤ z 10 ∧ z 10 < 4001) ∧ ∀ A_13 : Nat → Nat → Int, A_13 = hz_s A_12 9 (z 10) 0 → wp_isDigit z A_13 x3 (fun r_14 => hz_rI r_14 ∧ ((r_14 = 0 → wp_cut_208 z A_13 x4 P9 Q) ∧ (¬ (r_14 = 0) → wp_cut_114 z A_13 x2 x2 P9 Q)))
noncomputable def wp_cut_39 (z : Nat → Int) (A : Nat → Nat → Int) (x1 : Int) (x2 : Int) (t0 : Int) (P9 : (Nat → Int) → (Nat → Nat → Int) → Int → Int → Prop) (Q : (Nat → Int) → (Nat → Nat → Int) → Prop) : Prop := ∀ x4_16 : Int, x4_16 = x2 + 1 → hz_rI t0 ∧ ((t0 = 32 → wp_cut_237 z A x1 x4_16 P9 Q) ∧ (¬ (t0 = 32) → hz_rI x2 ∧ hz_rI (z 5) ∧ ((¬ x2 = z 5 → wp_isSign z A t0 (fun r_19 => hz_rI r_19 ∧ ((r_19 = 0 → wp_cut_83 z A x2 t0 x4_16 2 (z 10) P9 Q) ∧ (¬ (r_19 = 0) → wp_cut_83 z A x2 t0 x4_16 t0 (z 10) P9 Q)))) ∧ (x2 = z 5 → wp_cut_83 z A x2 t0 x4_16 0 (z 10) P9 Q))))
noncomputable def wp_cut_9 (z : Nat → Int) (A : Nat → Nat → Int) (x1 : Int) (x2 : Int) (Q : (Nat → Int) → (Nat → Nat → Int) → Prop) : Prop := ∀ P9 : (Nat → Int) → (Nat → Nat → Int) → Int → Int → Prop, (∀ (z : Nat → Int) (A : Nat → Nat → Int) (x1 : Int) (x2 : Int), hz_rI x1 ∧ ((x1 = 0 → wp_cut_243 z A  Q) ∧ (¬ (x1 = 0) → hz_rI x2 ∧ hz_rI (z 5) ∧ ((z 5 < x2 → wp_cut_243 z A  Q) ∧ (¬ (z 5 < x2) → hz_rI x2 ∧ hz_rI (z 5) ∧ ((z 5 ≤ x2 → wp_cut_39 z A x1 x2 0 P9 Q) ∧ (¬ (z 5 ≤ x2) → (0 ≤ x2 ∧ x2 < 4000) ∧ wp_cut_39 z A x1 x2 (A 4 (x2.toNat)) P9 Q)))))) → P9 z A x1 x2) → P9 z A x1 x2
noncomputable def wp_cut (z : Nat → Int) (A : Nat → Nat → Int) (Q : (Nat → Int) → (Nat → Nat → Int) → Prop) : Prop := ∀ z_24 : Nat → Int, z_24 = lp_U z 10 0 → wp_cut_9 z_24 A 1 0  Q
set_option maxHeartbeats 4000000 in
set_option maxRecDepth 100000 in
theorem k_cut (l : Launch) (D : va_G) (sz : Nat) (om : Nat) (R : Nat → Nat) (C : Nat → ClassId) (z : Nat → Int) (A : Nat → Nat → Int) (Q : (Nat → Int) → (Nat → Nat → Int) → Prop) (hw : wp_cut z A Q) : Met l yX12_cut wsX12_cut ({ frames := 1, cells := 0, slots := 0, locals := 20 } : Room) (va_Pc [.ref om] (hm_P D (mw_w om R C z A) (mw_t C) sz)) (va_Qv (S := Int × (Nat → Int) × (Nat → Nat → Int)) (fun u => Q u.2.1 u.2.2) (fun u t => hm_B D (va_A (mw_w om R C z A) sz) (mw_w om R C u.2.1 u.2.2) (mw_t C) t) (va_A (mw_w om R C z A) sz)) 0 0 (va_A (mw_w om R C z A) sz) := by
  refine Met.ofW (cc := cX12_cut) (maxL := 5) (ret := none) (by decide) rfl ?_
  intro p e s m args below meth c s₁ B hml hv
  obtain ⟨rfl, hsz, hP, hK, hD0, hE⟩ := hv
  have hx := B.exec
  have hb := B.bytes
  have hr := B.returns
  have hts := atoms_spec (ws := wsX12_cut) B.pre
  have hown : s.vm.findClass RX12 = some m.cls := findClass_of_methodNamed B.named
  have hlocks := B.notSynchronized
  have hin12 : ∀ w ∈ u_ws RX12 TX12 58, w ∈ wsX12_cut := fun w h => List.mem_cons_of_mem _ (List.mem_append_right _ (h))
  subst hsz
  have hD := hD0.self (sz := s.heap.size)
  generalize hAe : va_A (mw_w om R C z A) s.heap.size = Ad at hD ⊢
  have hA : ∀ q : Nat, s.heap.size ≤ q → Ad q := fun q h => by rw [← hAe]; exact Or.inr h
  have hS : va_S Ad s.heap s.heap [] := va_S.rf
  have hl := lv_entry ([.ref om]) (n := 5) (Nat.le_of_ble_eq_true rfl)
  rw [lg_entry_eq]
  generalize (lg_sl ([.ref om]) ++ List.replicate (5 - (lg_sl ([.ref om])).length) Slot.unset).toArray = ls at hl ⊢
  have hl : lv_has ls 5 [(0, .ref om)] := hl
  refine mw_Q (fun QQ hQQ => ?_)
  have hP0 := hP; have hD0 := hD; have hS0 := hS; have hl0 := hl; have hw0 := hw
  clear hP hD hS hl hw
  have L243 : ∀ (z : Nat → Int) (A : Nat → Nat → Int), wp_cut_243 z A  Q → ∀ (H : Heap) (locs : List Loc) (ls : Array Slot), va_P D vwCl (mw_w om R C z A) H → va_D Ad (mw_w om R C z A) → va_S Ad s.heap H locs → lv_has ls 5 [(0, .ref om)] → W p l e (headSpec wsX12_cut ({ frames := 1, cells := 0, slots := 0, locals := 20 } : Room)).room s m (List.toArray [.ref om]) below meth c H locs 0 0 QQ (F0 m 243 ls []) := by
    intro z A hw H locs ls hP hD hS hl
    subst hQQ
    subst hAe
    exact W.vret hx hb hr (fun t ht hW => ⟨⟨(0, z, A), rfl, hw, by rw [ht]; exact hP, va_K.moved hW.alike hK, hD⟩, hS.F ht⟩) hS.2.2 dX12_cut_243
  have L9 : ∀ (z : Nat → Int) (A : Nat → Nat → Int) (x1 : Int) (x2 : Int), wp_cut_9 z A x1 x2  Q → ∀ (H : Heap) (locs : List Loc) (ls : Array Slot), va_P D vwCl (mw_w om R C z A) H → va_D Ad (mw_w om R C z A) → va_S Ad s.heap H locs → lv_has ls 5 [(0, .ref om), (1, .int (hz_i x1)), (2, .int (hz_i x2))] → W p l e (headSpec wsX12_cut ({ frames := 1, cells := 0, slots := 0, locals := 20 } : Room)).room s m (List.toArray [.ref om]) below meth c H locs 0 0 QQ (F0 m 9 ls []) := by
    intro z A x1 x2 hw
    obtain ⟨P9, hP9⟩ : ∃ P : (Nat → Int) → (Nat → Nat → Int) → Int → Int → Prop, ∀ (z : Nat → Int) (A : Nat → Nat → Int) (x1 : Int) (x2 : Int), P z A x1 x2 ↔ (∀ (H : Heap) (locs : List Loc) (ls : Array Slot), va_P D vwCl (mw_w om R C z A) H → va_D Ad (mw_w om R C z A) → va_S Ad s.heap H locs → lv_has ls 5 [(0, .ref om), (1, .int (hz_i x1)), (2, .int (hz_i x2))] → W p l e (headSpec wsX12_cut ({ frames := 1, cells := 0, slots := 0, locals := 20 } : Room)).room s m (List.toArray [.ref om]) below meth c H locs 0 0 QQ (F0 m 9 ls [])) := ⟨fun (z : Nat → Int) (A : Nat → Nat → Int) (x1 : Int) (x2 : Int) => ∀ (H : Heap) (locs : List Loc) (ls : Array Slot), va_P D vwCl (mw_w om R C z A) H → va_D Ad (mw_w om R C z A) → va_S Ad s.heap H locs → lv_has ls 5 [(0, .ref om), (1, .int (hz_i x1)), (2, .int (hz_i x2))] → W p l e (headSpec wsX12_cut ({ frames := 1, cells := 0, slots := 0, locals := 20 } : Room)).room s m (List.toArray [.ref om]) below meth c H locs 0 0 QQ (F0 m 9 ls []), fun _ _ _ _ => Iff.rfl⟩
    refine (hP9 z A x1 x2).mp (hw P9 ?_)
    intro z A x1 x2 hw
    refine (hP9 z A x1 x2).mpr ?_
    intro H locs ls hP hD hS hl
    have L237 : ∀ (z : Nat → Int) (A : Nat → Nat → Int) (x1 : Int) (x4 : Int), wp_cut_237 z A x1 x4 P9 Q → ∀ (H : Heap) (locs : List Loc) (ls : Array Slot), va_P D vwCl (mw_w om R C z A) H → va_D Ad (mw_w om R C z A) → va_S Ad s.heap H locs → lv_has ls 5 [(0, .ref om), (1, .int (hz_i x1)), (4, .int (hz_i x4))] → W p l e (headSpec wsX12_cut ({ frames := 1, cells := 0, slots := 0, locals := 20 } : Room)).room s m (List.toArray [.ref om]) below meth c H locs 0 0 QQ (F0 m 237 ls []) := by
      intro z A x1 x4 hw H locs ls hP hD hS hl
      refine lv_iload hx hb dX12_cut_237 (lv_at hl 2 rfl) ?_
      refine lv_istore_n (lv' := [(2, .int (hz_i x4)), (0, .ref om), (1, .int (hz_i x1)), (4, .int (hz_i x4))]) hx hb dX12_cut_239 rfl hl (by decide) rfl (fun ls hl => ?_)
      refine lv_goto (tgt := 9) hx hb dX12_cut_240 (by decide) ?_
      exact (hP9 z A x1 x4).mp hw H locs ls hP hD hS (lv_sub hl [1, 2, 0] rfl)
    have L226 : ∀ (z : Nat → Int) (A : Nat → Nat → Int) (x4 : Int) (t0 : Int), wp_cut_226 z A x4 t0 P9 Q → ∀ (H : Heap) (locs : List Loc) (ls : Array Slot), va_P D vwCl (mw_w om R C z A) H → va_D Ad (mw_w om R C z A) → va_S Ad s.heap H locs → lv_has ls 5 [(0, .ref om), (4, .int (hz_i x4))] → W p l e (headSpec wsX12_cut ({ frames := 1, cells := 0, slots := 0, locals := 20 } : Room)).room s m (List.toArray [.ref om]) below meth c H locs 0 0 QQ (F0 m 226 ls [.int (hz_i t0)]) := by
      intro z A x4 t0 hw H locs ls hP hD hS hl
      refine lv_istore_n (lv' := [(1, .int (hz_i t0)), (0, .ref om), (4, .int (hz_i x4))]) hx hb dX12_cut_226 rfl hl (by decide) rfl (fun ls hl => ?_)
      refine lv_aload_n hx hb dX12_cut_227 rfl (lv_at hl 1 rfl) ?_
      refine lv_dup hx hb dX12_cut_228 rfl ?_
      refine mw_get (v := .int (hz_i (z 10))) hx hb hts hin12 hown hK hP 10 (by decide) (hts (.fieldLink RX12 235 "HiddenMovesModel" "words" "I") (List.mem_cons_of_mem _ (List.mem_append_left _ (List.mem_of_getElem? (i := 0) rfl)))) (fun _ h9 => h9) rfl dX12_cut_229 ?_
      refine lv_iconst (v := hz_i 1) hx hb dX12_cut_232 (by decide +kernel) ?_
      refine hz_iadd hx hb dX12_cut_233 ?_
      refine mw_put (ty := .int) (v := .int (hz_i ((z 10) + 1))) hx hb hts hin12 hown hK hP hD hS 10 (by decide) (hts (.fieldLink RX12 235 "HiddenMovesModel" "words" "I") (List.mem_cons_of_mem _ (List.mem_append_left _ (List.mem_of_getElem? (i := 0) rfl)))) (fun _ h9 => h9) rfl (by decide +kernel) rfl rfl (mw_s10 R z ((z 10) + 1)) dX12_cut_234 (fun H locs hP hD hS => ?_)
      obtain ⟨z_1, hz_1⟩ : ∃ y : Nat → Int, y = lp_U z 10 ((z 10) + 1) := ⟨_, rfl⟩
      rw [← hz_1] at hP hD
      have hw := hw z_1 hz_1
      exact L237 z_1 A t0 x4 hw H locs ls hP hD hS (lv_sub hl [1, 0, 2] rfl)
    have L208 : ∀ (z : Nat → Int) (A : Nat → Nat → Int) (x4 : Int), wp_cut_208 z A x4 P9 Q → ∀ (H : Heap) (locs : List Loc) (ls : Array Slot), va_P D vwCl (mw_w om R C z A) H → va_D Ad (mw_w om R C z A) → va_S Ad s.heap H locs → lv_has ls 5 [(0, .ref om), (4, .int (hz_i x4))] → W p l e (headSpec wsX12_cut ({ frames := 1, cells := 0, slots := 0, locals := 20 } : Room)).room s m (List.toArray [.ref om]) below meth c H locs 0 0 QQ (F0 m 208 ls []) := by
      intro z A x4 hw H locs ls hP hD hS hl
      refine lv_aload_n hx hb dX12_cut_208 rfl (lv_at hl 0 rfl) ?_
      refine mw_get (v := .ref (R 7)) hx hb hts hin12 hown hK hP 7 (by decide) (hts (.fieldLink RX12 102 "HiddenMovesModel" "kinds" "[I") (List.mem_cons_of_mem _ (List.mem_append_left _ (List.mem_of_getElem? (i := 3) rfl)))) (fun _ h9 => h9) rfl dX12_cut_209 ?_
      refine lv_aload_n hx hb dX12_cut_212 rfl (lv_at hl 0 rfl) ?_
      refine mw_get (v := .int (hz_i (z 10))) hx hb hts hin12 hown hK hP 10 (by decide) (hts (.fieldLink RX12 235 "HiddenMovesModel" "words" "I") (List.mem_cons_of_mem _ (List.mem_append_left _ (List.mem_of_getElem? (i := 0) rfl)))) (fun _ h9 => h9) rfl dX12_cut_213 ?_
      obtain ⟨h9i, hw⟩ := hw
      refine mw_ild (k := 7) (n := 4001) (i := z 10) hx hb hK hP 5 4 rfl rfl h9i (by decide) dX12_cut_216 ?_
      refine lv_iconst (v := hz_i 2) hx hb dX12_cut_217 (by decide +kernel) ?_
      obtain ⟨h9a, hw⟩ := hw
      refine hz_icmp_eq (tgt := 225) hx hb dX12_cut_218 (by decide) h9a ⟨by decide, by decide⟩ (fun c_2 => ?_) (fun c_2 => ?_)
      · have hw := hw.1 c_2
        refine lv_iconst (v := hz_i 0) hx hb dX12_cut_225 (by decide +kernel) ?_
        exact L226 z A x4 0 hw H locs ls hP hD hS (lv_sub hl [0, 1] rfl)
      · have hw := hw.2 c_2
        refine lv_iconst (v := hz_i 1) hx hb dX12_cut_221 (by decide +kernel) ?_
        refine lv_goto (tgt := 226) hx hb dX12_cut_222 (by decide) ?_
        exact L226 z A x4 1 hw H locs ls hP hD hS (lv_sub hl [0, 1] rfl)
    have L207 : ∀ (z : Nat → Int) (A : Nat → Nat → Int) (x4 : Int) (t0 : Int) (t1 : Int), wp_cut_207 z A x4 t0 t1 P9 Q → ∀ (H : Heap) (locs : List Loc) (ls : Array Slot), va_P D vwCl (mw_w om R C z A) H → va_D Ad (mw_w om R C z A) → va_S Ad s.heap H locs → lv_has ls 5 [(0, .ref om), (4, .int (hz_i x4))] → W p l e (headSpec wsX12_cut ({ frames := 1, cells := 0, slots := 0, locals := 20 } : Room)).room s m (List.toArray [.ref om]) below meth c H locs 0 0 QQ (F0 m 207 ls [.int (hz_i t0), .int (hz_i t1), .ref (R 7)]) := by
      intro z A x4 t0 t1 hw H locs ls hP hD hS hl
      obtain ⟨h9i, hw⟩ := hw
      refine mw_ist (k := 7) (n := 4001) (i := t1) (v := t0) hx hb hK hP hD hS 5 4 rfl rfl (mw_a7 om R C z A) h9i (by decide) dX12_cut_207 (fun H locs hP hD hS => ?_)
      obtain ⟨A_3, hA_3⟩ : ∃ y : Nat → Nat → Int, y = hz_s A 7 t1 t0 := ⟨_, rfl⟩
      rw [← hA_3] at hP hD
      have hw := hw A_3 hA_3
      exact L208 z A_3 x4 hw H locs ls hP hD hS (lv_sub hl [0, 1] rfl)
    have L186 : ∀ (z : Nat → Int) (A : Nat → Nat → Int) (x2 : Int) (x4 : Int), wp_cut_186 z A x2 x4 P9 Q → ∀ (H : Heap) (locs : List Loc) (ls : Array Slot), va_P D vwCl (mw_w om R C z A) H → va_D Ad (mw_w om R C z A) → va_S Ad s.heap H locs → lv_has ls 5 [(0, .ref om), (2, .int (hz_i x2)), (4, .int (hz_i x4))] → W p l e (headSpec wsX12_cut ({ frames := 1, cells := 0, slots := 0, locals := 20 } : Room)).room s m (List.toArray [.ref om]) below meth c H locs 0 0 QQ (F0 m 186 ls []) := by
      intro z A x2 x4 hw H locs ls hP hD hS hl
      refine lv_aload_n hx hb dX12_cut_186 rfl (lv_at hl 0 rfl) ?_
      refine mw_get (v := .ref (R 7)) hx hb hts hin12 hown hK hP 7 (by decide) (hts (.fieldLink RX12 102 "HiddenMovesModel" "kinds" "[I") (List.mem_cons_of_mem _ (List.mem_append_left _ (List.mem_of_getElem? (i := 3) rfl)))) (fun _ h9 => h9) rfl dX12_cut_187 ?_
      refine lv_aload_n hx hb dX12_cut_190 rfl (lv_at hl 0 rfl) ?_
      refine mw_get (v := .int (hz_i (z 10))) hx hb hts hin12 hown hK hP 10 (by decide) (hts (.fieldLink RX12 235 "HiddenMovesModel" "words" "I") (List.mem_cons_of_mem _ (List.mem_append_left _ (List.mem_of_getElem? (i := 0) rfl)))) (fun _ h9 => h9) rfl dX12_cut_191 ?_
      refine lv_iload hx hb dX12_cut_194 (lv_at hl 2 rfl) ?_
      refine lv_iload_n hx hb dX12_cut_196 rfl (lv_at hl 1 rfl) ?_
      refine hz_isub hx hb dX12_cut_197 ?_
      refine lv_iconst (v := hz_i 4) hx hb dX12_cut_198 (by decide +kernel) ?_
      obtain ⟨h9a, hw⟩ := hw
      refine hz_icmp_le (tgt := 206) hx hb dX12_cut_199 (by decide) h9a ⟨by decide, by decide⟩ (fun c_4 => ?_) (fun c_4 => ?_)
      · have hw := hw.1 c_4
        refine lv_iconst (v := hz_i 1) hx hb dX12_cut_206 (by decide +kernel) ?_
        exact L207 z A x4 1 (z 10) hw H locs ls hP hD hS (lv_sub hl [0, 2] rfl)
      · have hw := hw.2 c_4
        refine lv_iconst (v := hz_i 2) hx hb dX12_cut_202 (by decide +kernel) ?_
        refine lv_goto (tgt := 207) hx hb dX12_cut_203 (by decide) ?_
        exact L207 z A x4 2 (z 10) hw H locs ls hP hD hS (lv_sub hl [0, 2] rfl)
    have L114 : ∀ (z : Nat → Int) (A : Nat → Nat → Int) (x2 : Int) (x4 : Int), wp_cut_114 z A x2 x4 P9 Q → ∀ (H : Heap) (locs : List Loc) (ls : Array Slot), va_P D vwCl (mw_w om R C z A) H → va_D Ad (mw_w om R C z A) → va_S Ad s.heap H locs → lv_has ls 5 [(0, .ref om), (2, .int (hz_i x2)), (4, .int (hz_i x4))] → W p l e (headSpec wsX12_cut ({ frames := 1, cells := 0, slots := 0, locals := 20 } : Room)).room s m (List.toArray [.ref om]) below meth c H locs 0 0 QQ (F0 m 114 ls []) := by
      intro z A x2 x4 hw
      obtain ⟨P114, hP114⟩ : ∃ P : (Nat → Nat → Int) → Int → Prop, ∀ (A : Nat → Nat → Int) (x4 : Int), P A x4 ↔ (∀ (H : Heap) (locs : List Loc) (ls : Array Slot), va_P D vwCl (mw_w om R C z A) H → va_D Ad (mw_w om R C z A) → va_S Ad s.heap H locs → lv_has ls 5 [(0, .ref om), (2, .int (hz_i x2)), (4, .int (hz_i x4))] → W p l e (headSpec wsX12_cut ({ frames := 1, cells := 0, slots := 0, locals := 20 } : Room)).room s m (List.toArray [.ref om]) below meth c H locs 0 0 QQ (F0 m 114 ls [])) := ⟨fun (A : Nat → Nat → Int) (x4 : Int) => ∀ (H : Heap) (locs : List Loc) (ls : Array Slot), va_P D vwCl (mw_w om R C z A) H → va_D Ad (mw_w om R C z A) → va_S Ad s.heap H locs → lv_has ls 5 [(0, .ref om), (2, .int (hz_i x2)), (4, .int (hz_i x4))] → W p l e (headSpec wsX12_cut ({ frames := 1, cells := 0, slots := 0, locals := 20 } : Room)).room s m (List.toArray [.ref om]) below meth c H locs 0 0 QQ (F0 m 114 ls []), fun _ _ => Iff.rfl⟩
      refine (hP114 A x4).mp (hw P114 ?_)
      intro A x4 hw
      refine (hP114 A x4).mpr ?_
      intro H locs ls hP hD hS hl
      have L179 : ∀ (A : Nat → Nat → Int) (x4 : Int) (t0 : Int) (t1 : Int), wp_cut_179 z A x2 x4 t0 t1 P9 P114 Q → ∀ (H : Heap) (locs : List Loc) (ls : Array Slot), va_P D vwCl (mw_w om R C z A) H → va_D Ad (mw_w om R C z A) → va_S Ad s.heap H locs → lv_has ls 5 [(0, .ref om), (2, .int (hz_i x2)), (4, .int (hz_i x4))] → W p l e (headSpec wsX12_cut ({ frames := 1, cells := 0, slots := 0, locals := 20 } : Room)).room s m (List.toArray [.ref om]) below meth c H locs 0 0 QQ (F0 m 179 ls [.int (hz_i t0), .int (hz_i t1), .ref (R 9)]) := by
        intro A x4 t0 t1 hw H locs ls hP hD hS hl
        obtain ⟨h9i, hw⟩ := hw
        refine mw_ist (k := 9) (n := 4001) (i := t1) (v := t0) hx hb hK hP hD hS 7 6 rfl rfl (mw_a9 om R C z A) h9i (by decide) dX12_cut_179 (fun H locs hP hD hS => ?_)
        obtain ⟨A_5, hA_5⟩ : ∃ y : Nat → Nat → Int, y = hz_s A 9 t1 t0 := ⟨_, rfl⟩
        rw [← hA_5] at hP hD
        have hw := hw A_5 hA_5
        obtain ⟨x4_6, hx4_6⟩ : ∃ y : Int, y = x4 + 1 := ⟨_, rfl⟩
        have hw := hw x4_6 hx4_6
        refine lv_iinc (v := hz_i x4_6) (lv' := [(4, .int (hz_i x4_6)), (0, .ref om), (2, .int (hz_i x2))]) hx hb dX12_cut_180 hl (k := 2) rfl (by rw [hx4_6]; exact hz_i_add _ _) (by decide) rfl (fun ls hl => ?_)
        refine lv_goto (tgt := 114) hx hb dX12_cut_183 (by decide) ?_
        exact (hP114 A_5 x4_6).mp hw H locs ls hP hD hS (lv_sub hl [1, 2, 0] rfl)
      refine lv_iload hx hb dX12_cut_114 (lv_at hl 2 rfl) ?_
      refine lv_aload_n hx hb dX12_cut_116 rfl (lv_at hl 0 rfl) ?_
      refine mw_get (v := .int (hz_i (z 5))) hx hb hts hin12 hown hK hP 5 (by decide) (hts (.fieldLink RX12 226 "HiddenMovesModel" "length" "I") (List.mem_cons_of_mem _ (List.mem_append_left _ (List.mem_of_getElem? (i := 1) rfl)))) (fun _ h9 => h9) rfl dX12_cut_117 ?_
      obtain ⟨h9a, hw⟩ := hw
      obtain ⟨h9b, hw⟩ := hw
      refine hz_icmp_ge (tgt := 186) hx hb dX12_cut_120 (by decide) h9a h9b (fun c_7 => ?_) (fun c_7 => ?_)
      · have hw := hw.1 c_7
        exact L186 z A x2 x4 hw H locs ls hP hD hS (lv_sub hl [0, 1, 2] rfl)
      · have hw := hw.2 c_7
        refine lv_aload_n hx hb dX12_cut_123 rfl (lv_at hl 0 rfl) ?_
        refine mw_get (v := .ref (R 4)) hx hb hts hin12 hown hK hP 4 (by decide) (hts (.fieldLink RX12 94 "HiddenMovesModel" "text" "[B") (List.mem_cons_of_mem _ (List.mem_append_left _ (List.mem_of_getElem? (i := 2) rfl)))) (fun _ h9 => h9) rfl dX12_cut_124 ?_
        refine lv_iload hx hb dX12_cut_127 (lv_at hl 2 rfl) ?_
        obtain ⟨h9i, hw⟩ := hw
        refine mw_bld (k := 4) (n := 4000) (i := x4) hx hb hK hP 4 3 rfl rfl h9i (by decide) dX12_cut_129 ?_
        have hFc := mw_free hD hS hA
        refine va_calli (va_runS (As := [.int (hz_i (A 4 (x4.toNat)))]) (rest := []) ⟨hx, hb, hml, hown, hts⟩ (k_isDigit l D _ om R C z A (A 4 (x4.toNat)) _ hw) (va_cwS 1 hts gX12_cut_X12_isDigit rfl rfl rfl (by decide +kernel) ⟨Nat.le_of_ble_eq_true rfl, Nat.le_of_ble_eq_true rfl⟩) ⟨hm_blind, hm_pre hP hK hD hE⟩ rfl rfl hl.1 rfl (lv_room (Nat.le_of_ble_eq_true rfl)) dX12_cut_130 ⟨Nat.le_of_ble_eq_true rfl, Nat.le_of_ble_eq_true rfl⟩) hS (fun q _ h => hFc q h) hFc (fun rv u t H1 locs ht hvm hw hB hz1 hk1 hS => ?_)
        obtain ⟨r_8, _, _⟩ := u
        obtain ⟨hP, hK1, hD1⟩ := hB
        rw [ht] at hP
        obtain ⟨hrv, hw⟩ := hw
        subst hrv
        have hD := hD1.weaken (fun k q _ h => hFc q.1 h)
        have hP : va_P D vwCl (mw_w om R C z A) H1 := hP
        have hD : va_D Ad (mw_w om R C z A) := hD
        generalize H1 = H at hP hS ⊢
        refine W.eq (g2 := F0 m 133 ls [.int (hz_i r_8)]) rfl ?_
        obtain ⟨h9a, hw⟩ := hw
        refine hz_if_eq (tgt := 186) hx hb dX12_cut_133 (by decide) h9a (fun c_9 => ?_) (fun c_9 => ?_)
        · have hw := hw.1 c_9
          exact L186 z A x2 x4 hw H locs ls hP hD hS (lv_sub hl [0, 1, 2] rfl)
        · have hw := hw.2 c_9
          refine lv_aload_n hx hb dX12_cut_136 rfl (lv_at hl 0 rfl) ?_
          refine mw_get (v := .ref (R 9)) hx hb hts hin12 hown hK hP 9 (by decide) (hts (.fieldLink RX12 108 "HiddenMovesModel" "numbers" "[I") (List.mem_cons_of_mem _ (List.mem_append_left _ (List.mem_of_getElem? (i := 5) rfl)))) (fun _ h9 => h9) rfl dX12_cut_137 ?_
          refine lv_aload_n hx hb dX12_cut_140 rfl (lv_at hl 0 rfl) ?_
          refine mw_get (v := .int (hz_i (z 10))) hx hb hts hin12 hown hK hP 10 (by decide) (hts (.fieldLink RX12 235 "HiddenMovesModel" "words" "I") (List.mem_cons_of_mem _ (List.mem_append_left _ (List.mem_of_getElem? (i := 0) rfl)))) (fun _ h9 => h9) rfl dX12_cut_141 ?_
          refine lv_iload hx hb dX12_cut_144 (lv_at hl 2 rfl) ?_
          refine lv_iload_n hx hb dX12_cut_146 rfl (lv_at hl 1 rfl) ?_
          refine hz_isub hx hb dX12_cut_147 ?_
          refine lv_iconst (v := hz_i 4) hx hb dX12_cut_148 (by decide +kernel) ?_
          obtain ⟨h9a, hw⟩ := hw
          refine hz_icmp_ge (tgt := 178) hx hb dX12_cut_149 (by decide) h9a ⟨by decide, by decide⟩ (fun c_10 => ?_) (fun c_10 => ?_)
          · have hw := hw.1 c_10
            refine lv_iconst (v := hz_i 0) hx hb dX12_cut_178 (by decide +kernel) ?_
            exact L179 A x4 0 (z 10) hw H locs ls hP hD hS (lv_sub hl [0, 1, 2] rfl)
          · have hw := hw.2 c_10
            refine lv_bipush (v := hz_i 10) hx hb dX12_cut_152 (by decide +kernel) ?_
            refine lv_aload_n hx hb dX12_cut_154 rfl (lv_at hl 0 rfl) ?_
            refine mw_get (v := .ref (R 9)) hx hb hts hin12 hown hK hP 9 (by decide) (hts (.fieldLink RX12 108 "HiddenMovesModel" "numbers" "[I") (List.mem_cons_of_mem _ (List.mem_append_left _ (List.mem_of_getElem? (i := 5) rfl)))) (fun _ h9 => h9) rfl dX12_cut_155 ?_
            refine lv_aload_n hx hb dX12_cut_158 rfl (lv_at hl 0 rfl) ?_
            refine mw_get (v := .int (hz_i (z 10))) hx hb hts hin12 hown hK hP 10 (by decide) (hts (.fieldLink RX12 235 "HiddenMovesModel" "words" "I") (List.mem_cons_of_mem _ (List.mem_append_left _ (List.mem_of_getElem? (i := 0) rfl)))) (fun _ h9 => h9) rfl dX12_cut_159 ?_
            obtain ⟨h9i, hw⟩ := hw
            refine mw_ild (k := 9) (n := 4001) (i := z 10) hx hb hK hP 7 6 rfl rfl h9i (by decide) dX12_cut_162 ?_
            refine hz_imul hx hb dX12_cut_163 ?_
            refine lv_aload_n hx hb dX12_cut_164 rfl (lv_at hl 0 rfl) ?_
            refine mw_get (v := .ref (R 4)) hx hb hts hin12 hown hK hP 4 (by decide) (hts (.fieldLink RX12 94 "HiddenMovesModel" "text" "[B") (List.mem_cons_of_mem _ (List.mem_append_left _ (List.mem_of_getElem? (i := 2) rfl)))) (fun _ h9 => h9) rfl dX12_cut_165 ?_
            refine lv_iload hx hb dX12_cut_168 (lv_at hl 2 rfl) ?_
            obtain ⟨h9i, hw⟩ := hw
            refine mw_bld (k := 4) (n := 4000) (i := x4) hx hb hK hP 4 3 rfl rfl h9i (by decide) dX12_cut_170 ?_
            refine hz_iadd hx hb dX12_cut_171 ?_
            refine lv_bipush (v := hz_i 48) hx hb dX12_cut_172 (by decide +kernel) ?_
            refine hz_isub hx hb dX12_cut_174 ?_
            refine lv_goto (tgt := 179) hx hb dX12_cut_175 (by decide) ?_
            exact L179 A x4 (((10 * (A 9 ((z 10).toNat))) + (A 4 (x4.toNat))) - 48) (z 10) hw H locs ls hP hD hS (lv_sub hl [0, 1, 2] rfl)
    have L83 : ∀ (z : Nat → Int) (A : Nat → Nat → Int) (x2 : Int) (x3 : Int) (x4 : Int) (t0 : Int) (t1 : Int), wp_cut_83 z A x2 x3 x4 t0 t1 P9 Q → ∀ (H : Heap) (locs : List Loc) (ls : Array Slot), va_P D vwCl (mw_w om R C z A) H → va_D Ad (mw_w om R C z A) → va_S Ad s.heap H locs → lv_has ls 5 [(0, .ref om), (2, .int (hz_i x2)), (3, .int (hz_i x3)), (4, .int (hz_i x4))] → W p l e (headSpec wsX12_cut ({ frames := 1, cells := 0, slots := 0, locals := 20 } : Room)).room s m (List.toArray [.ref om]) below meth c H locs 0 0 QQ (F0 m 83 ls [.int (hz_i t0), .int (hz_i t1), .ref (R 7)]) := by
      intro z A x2 x3 x4 t0 t1 hw H locs ls hP hD hS hl
      obtain ⟨h9i, hw⟩ := hw
      refine mw_ist (k := 7) (n := 4001) (i := t1) (v := t0) hx hb hK hP hD hS 5 4 rfl rfl (mw_a7 om R C z A) h9i (by decide) dX12_cut_83 (fun H locs hP hD hS => ?_)
      obtain ⟨A_11, hA_11⟩ : ∃ y : Nat → Nat → Int, y = hz_s A 7 t1 t0 := ⟨_, rfl⟩
      rw [← hA_11] at hP hD
      have hw := hw A_11 hA_11
      refine lv_aload_n hx hb dX12_cut_84 rfl (lv_at hl 0 rfl) ?_
      refine mw_get (v := .ref (R 8)) hx hb hts hin12 hown hK hP 8 (by decide) (hts (.fieldLink RX12 105 "HiddenMovesModel" "places" "[I") (List.mem_cons_of_mem _ (List.mem_append_left _ (List.mem_of_getElem? (i := 4) rfl)))) (fun _ h9 => h9) rfl dX12_cut_85 ?_
      refine lv_aload_n hx hb dX12_cut_88 rfl (lv_at hl 0 rfl) ?_
      refine mw_get (v := .int (hz_i (z 10))) hx hb hts hin12 hown hK hP 10 (by decide) (hts (.fieldLink RX12 235 "HiddenMovesModel" "words" "I") (List.mem_cons_of_mem _ (List.mem_append_left _ (List.mem_of_getElem? (i := 0) rfl)))) (fun _ h9 => h9) rfl dX12_cut_89 ?_
      refine lv_iload_n hx hb dX12_cut_92 rfl (lv_at hl 1 rfl) ?_
      obtain ⟨h9i, hw⟩ := hw
      refine mw_ist (k := 8) (n := 4001) (i := z 10) (v := x2) hx hb hK hP hD hS 6 5 rfl rfl (mw_a8 om R C z A_11) h9i (by decide) dX12_cut_93 (fun H locs hP hD hS => ?_)
      obtain ⟨A_12, hA_12⟩ : ∃ y : Nat → Nat → Int, y = hz_s A_11 8 (z 10) x2 := ⟨_, rfl⟩
      rw [← hA_12] at hP hD
      have hw := hw A_12 hA_12
      refine lv_aload_n hx hb dX12_cut_94 rfl (lv_at hl 0 rfl) ?_
      refine mw_get (v := .ref (R 9)) hx hb hts hin12 hown hK hP 9 (by decide) (hts (.fieldLink RX12 108 "HiddenMovesModel" "numbers" "[I") (List.mem_cons_of_mem _ (List.mem_append_left _ (List.mem_of_getElem? (i := 5) rfl)))) (fun _ h9 => h9) rfl dX12_cut_95 ?_
      refine lv_aload_n hx hb dX12_cut_98 rfl (lv_at hl 0 rfl) ?_
      refine mw_get (v := .int (hz_i (z 10))) hx hb hts hin12 hown hK hP 10 (by decide) (hts (.fieldLink RX12 235 "HiddenMovesModel" "words" "I") (List.mem_cons_of_mem _ (List.mem_append_left _ (List.mem_of_getElem? (i := 0) rfl)))) (fun _ h9 => h9) rfl dX12_cut_99 ?_
      refine lv_iconst (v := hz_i 0) hx hb dX12_cut_102 (by decide +kernel) ?_
      obtain ⟨h9i, hw⟩ := hw
      refine mw_ist (k := 9) (n := 4001) (i := z 10) (v := 0) hx hb hK hP hD hS 7 6 rfl rfl (mw_a9 om R C z A_12) h9i (by decide) dX12_cut_103 (fun H locs hP hD hS => ?_)
      obtain ⟨A_13, hA_13⟩ : ∃ y : Nat → Nat → Int, y = hz_s A_12 9 (z 10) 0 := ⟨_, rfl⟩
      rw [← hA_13] at hP hD
      have hw := hw A_13 hA_13
      refine lv_iload_n hx hb dX12_cut_104 rfl (lv_at hl 2 rfl) ?_
      have hFc := mw_free hD hS hA
      refine va_calli (va_runS (As := [.int (hz_i x3)]) (rest := []) ⟨hx, hb, hml, hown, hts⟩ (k_isDigit l D _ om R C z A_13 x3 _ hw) (va_cwS 1 hts gX12_cut_X12_isDigit rfl rfl rfl (by decide +kernel) ⟨Nat.le_of_ble_eq_true rfl, Nat.le_of_ble_eq_true rfl⟩) ⟨hm_blind, hm_pre hP hK hD hE⟩ rfl rfl hl.1 rfl (lv_room (Nat.le_of_ble_eq_true rfl)) dX12_cut_105 ⟨Nat.le_of_ble_eq_true rfl, Nat.le_of_ble_eq_true rfl⟩) hS (fun q _ h => hFc q h) hFc (fun rv u t H1 locs ht hvm hw hB hz1 hk1 hS => ?_)
      obtain ⟨r_14, _, _⟩ := u
      obtain ⟨hP, hK1, hD1⟩ := hB
      rw [ht] at hP
      obtain ⟨hrv, hw⟩ := hw
      subst hrv
      have hD := hD1.weaken (fun k q _ h => hFc q.1 h)
      have hP : va_P D vwCl (mw_w om R C z A_13) H1 := hP
      have hD : va_D Ad (mw_w om R C z A_13) := hD
      generalize H1 = H at hP hS ⊢
      refine W.eq (g2 := F0 m 108 ls [.int (hz_i r_14)]) rfl ?_
      obtain ⟨h9a, hw⟩ := hw
      refine hz_if_eq (tgt := 208) hx hb dX12_cut_108 (by decide) h9a (fun c_15 => ?_) (fun c_15 => ?_)
      · have hw := hw.1 c_15
        exact L208 z A_13 x4 hw H locs ls hP hD hS (lv_sub hl [0, 3] rfl)
      · have hw := hw.2 c_15
        refine lv_iload_n hx hb dX12_cut_111 rfl (lv_at hl 1 rfl) ?_
        refine lv_istore (lv' := [(4, .int (hz_i x2)), (0, .ref om), (2, .int (hz_i x2)), (3, .int (hz_i x3))]) hx hb dX12_cut_112 hl (by decide) rfl (fun ls hl => ?_)
        exact L114 z A_13 x2 x2 hw H locs ls hP hD hS (lv_sub hl [1, 2, 0] rfl)
    have L39 : ∀ (z : Nat → Int) (A : Nat → Nat → Int) (x1 : Int) (x2 : Int) (t0 : Int), wp_cut_39 z A x1 x2 t0 P9 Q → ∀ (H : Heap) (locs : List Loc) (ls : Array Slot), va_P D vwCl (mw_w om R C z A) H → va_D Ad (mw_w om R C z A) → va_S Ad s.heap H locs → lv_has ls 5 [(0, .ref om), (1, .int (hz_i x1)), (2, .int (hz_i x2))] → W p l e (headSpec wsX12_cut ({ frames := 1, cells := 0, slots := 0, locals := 20 } : Room)).room s m (List.toArray [.ref om]) below meth c H locs 0 0 QQ (F0 m 39 ls [.int (hz_i t0)]) := by
      intro z A x1 x2 t0 hw H locs ls hP hD hS hl
      refine lv_istore_n (lv' := [(3, .int (hz_i t0)), (0, .ref om), (1, .int (hz_i x1)), (2, .int (hz_i x2))]) hx hb dX12_cut_39 rfl hl (by decide) rfl (fun ls hl => ?_)
      refine lv_iload_n hx hb dX12_cut_40 rfl (lv_at hl 3 rfl) ?_
      refine lv_iconst (v := hz_i 1) hx hb dX12_cut_41 (by decide +kernel) ?_
      refine hz_iadd hx hb dX12_cut_42 ?_
      refine hz_topi (fun x4_16 hx4_16 => ?_)
      have hw := hw x4_16 hx4_16
      refine lv_istore (lv' := [(4, .int (hz_i x4_16)), (3, .int (hz_i t0)), (0, .ref om), (1, .int (hz_i x1)), (2, .int (hz_i x2))]) hx hb dX12_cut_43 hl (by decide) rfl (fun ls hl => ?_)
      refine lv_iload_n hx hb dX12_cut_45 rfl (lv_at hl 1 rfl) ?_
      refine lv_bipush (v := hz_i 32) hx hb dX12_cut_46 (by decide +kernel) ?_
      obtain ⟨h9a, hw⟩ := hw
      refine hz_icmp_eq (tgt := 237) hx hb dX12_cut_48 (by decide) h9a ⟨by decide, by decide⟩ (fun c_17 => ?_) (fun c_17 => ?_)
      · have hw := hw.1 c_17
        exact L237 z A x1 x4_16 hw H locs ls hP hD hS (lv_sub hl [2, 3, 0] rfl)
      · have hw := hw.2 c_17
        refine lv_aload_n hx hb dX12_cut_51 rfl (lv_at hl 2 rfl) ?_
        refine mw_get (v := .ref (R 7)) hx hb hts hin12 hown hK hP 7 (by decide) (hts (.fieldLink RX12 102 "HiddenMovesModel" "kinds" "[I") (List.mem_cons_of_mem _ (List.mem_append_left _ (List.mem_of_getElem? (i := 3) rfl)))) (fun _ h9 => h9) rfl dX12_cut_52 ?_
        refine lv_aload_n hx hb dX12_cut_55 rfl (lv_at hl 2 rfl) ?_
        refine mw_get (v := .int (hz_i (z 10))) hx hb hts hin12 hown hK hP 10 (by decide) (hts (.fieldLink RX12 235 "HiddenMovesModel" "words" "I") (List.mem_cons_of_mem _ (List.mem_append_left _ (List.mem_of_getElem? (i := 0) rfl)))) (fun _ h9 => h9) rfl dX12_cut_56 ?_
        refine lv_iload_n hx hb dX12_cut_59 rfl (lv_at hl 4 rfl) ?_
        refine lv_aload_n hx hb dX12_cut_60 rfl (lv_at hl 2 rfl) ?_
        refine mw_get (v := .int (hz_i (z 5))) hx hb hts hin12 hown hK hP 5 (by decide) (hts (.fieldLink RX12 226 "HiddenMovesModel" "length" "I") (List.mem_cons_of_mem _ (List.mem_append_left _ (List.mem_of_getElem? (i := 1) rfl)))) (fun _ h9 => h9) rfl dX12_cut_61 ?_
        obtain ⟨h9a, hw⟩ := hw
        obtain ⟨h9b, hw⟩ := hw
        refine hz_icmp_ne (tgt := 71) hx hb dX12_cut_64 (by decide) h9a h9b (fun c_18 => ?_) (fun c_18 => ?_)
        · have hw := hw.1 c_18
          refine lv_iload_n hx hb dX12_cut_71 rfl (lv_at hl 1 rfl) ?_
          have hFc := mw_free hD hS hA
          refine va_calli (va_runS (As := [.int (hz_i t0)]) (rest := [.int (hz_i (z 10)), .ref (R 7)]) ⟨hx, hb, hml, hown, hts⟩ (k_isSign l D _ om R C z A t0 _ hw) (va_cwS 1 hts gX12_cut_X12_isSign rfl rfl rfl (by decide +kernel) ⟨Nat.le_of_ble_eq_true rfl, Nat.le_of_ble_eq_true rfl⟩) ⟨hm_blind, hm_pre hP hK hD hE⟩ rfl rfl hl.1 rfl (lv_room (Nat.le_of_ble_eq_true rfl)) dX12_cut_72 ⟨Nat.le_of_ble_eq_true rfl, Nat.le_of_ble_eq_true rfl⟩) hS (fun q _ h => hFc q h) hFc (fun rv u t H1 locs ht hvm hw hB hz1 hk1 hS => ?_)
          obtain ⟨r_19, _, _⟩ := u
          obtain ⟨hP, hK1, hD1⟩ := hB
          rw [ht] at hP
          obtain ⟨hrv, hw⟩ := hw
          subst hrv
          have hD := hD1.weaken (fun k q _ h => hFc q.1 h)
          have hP : va_P D vwCl (mw_w om R C z A) H1 := hP
          have hD : va_D Ad (mw_w om R C z A) := hD
          generalize H1 = H at hP hS ⊢
          refine W.eq (g2 := F0 m 75 ls [.int (hz_i r_19), .int (hz_i (z 10)), .ref (R 7)]) rfl ?_
          obtain ⟨h9a, hw⟩ := hw
          refine hz_if_eq (tgt := 82) hx hb dX12_cut_75 (by decide) h9a (fun c_20 => ?_) (fun c_20 => ?_)
          · have hw := hw.1 c_20
            refine lv_iconst (v := hz_i 2) hx hb dX12_cut_82 (by decide +kernel) ?_
            exact L83 z A x2 t0 x4_16 2 (z 10) hw H locs ls hP hD hS (lv_sub hl [2, 4, 1, 0] rfl)
          · have hw := hw.2 c_20
            refine lv_iload_n hx hb dX12_cut_78 rfl (lv_at hl 1 rfl) ?_
            refine lv_goto (tgt := 83) hx hb dX12_cut_79 (by decide) ?_
            exact L83 z A x2 t0 x4_16 t0 (z 10) hw H locs ls hP hD hS (lv_sub hl [2, 4, 1, 0] rfl)
        · have hw := hw.2 c_18
          refine lv_iconst (v := hz_i 0) hx hb dX12_cut_67 (by decide +kernel) ?_
          refine lv_goto (tgt := 83) hx hb dX12_cut_68 (by decide) ?_
          exact L83 z A x2 t0 x4_16 0 (z 10) hw H locs ls hP hD hS (lv_sub hl [2, 4, 1, 0] rfl)
    refine lv_iload_n hx hb dX12_cut_9 rfl (lv_at hl 1 rfl) ?_
    obtain ⟨h9a, hw⟩ := hw
    refine hz_if_eq (tgt := 243) hx hb dX12_cut_10 (by decide) h9a (fun c_21 => ?_) (fun c_21 => ?_)
    · have hw := hw.1 c_21
      exact L243 z A hw H locs ls hP hD hS (lv_sub hl [0] rfl)
    · have hw := hw.2 c_21
      refine lv_iload_n hx hb dX12_cut_13 rfl (lv_at hl 2 rfl) ?_
      refine lv_aload_n hx hb dX12_cut_14 rfl (lv_at hl 0 rfl) ?_
      refine mw_get (v := .int (hz_i (z 5))) hx hb hts hin12 hown hK hP 5 (by decide) (hts (.fieldLink RX12 226 "HiddenMovesModel" "length" "I") (List.mem_cons_of_mem _ (List.mem_append_left _ (List.mem_of_getElem? (i := 1) rfl)))) (fun _ h9 => h9) rfl dX12_cut_15 ?_
      obtain ⟨h9a, hw⟩ := hw
      obtain ⟨h9b, hw⟩ := hw
      refine hz_icmp_gt (tgt := 243) hx hb dX12_cut_18 (by decide) h9a h9b (fun c_22 => ?_) (fun c_22 => ?_)
      · have hw := hw.1 c_22
        exact L243 z A hw H locs ls hP hD hS (lv_sub hl [0] rfl)
      · have hw := hw.2 c_22
        refine lv_iload_n hx hb dX12_cut_21 rfl (lv_at hl 2 rfl) ?_
        refine lv_aload_n hx hb dX12_cut_22 rfl (lv_at hl 0 rfl) ?_
        refine mw_get (v := .int (hz_i (z 5))) hx hb hts hin12 hown hK hP 5 (by decide) (hts (.fieldLink RX12 226 "HiddenMovesModel" "length" "I") (List.mem_cons_of_mem _ (List.mem_append_left _ (List.mem_of_getElem? (i := 1) rfl)))) (fun _ h9 => h9) rfl dX12_cut_23 ?_
        obtain ⟨h9a, hw⟩ := hw
        obtain ⟨h9b, hw⟩ := hw
        refine hz_icmp_ge (tgt := 38) hx hb dX12_cut_26 (by decide) h9a h9b (fun c_23 => ?_) (fun c_23 => ?_)
        · have hw := hw.1 c_23
          refine lv_iconst (v := hz_i 0) hx hb dX12_cut_38 (by decide +kernel) ?_
          exact L39 z A x1 x2 0 hw H locs ls hP hD hS (lv_sub hl [0, 1, 2] rfl)
        · have hw := hw.2 c_23
          refine lv_aload_n hx hb dX12_cut_29 rfl (lv_at hl 0 rfl) ?_
          refine mw_get (v := .ref (R 4)) hx hb hts hin12 hown hK hP 4 (by decide) (hts (.fieldLink RX12 94 "HiddenMovesModel" "text" "[B") (List.mem_cons_of_mem _ (List.mem_append_left _ (List.mem_of_getElem? (i := 2) rfl)))) (fun _ h9 => h9) rfl dX12_cut_30 ?_
          refine lv_iload_n hx hb dX12_cut_33 rfl (lv_at hl 2 rfl) ?_
          obtain ⟨h9i, hw⟩ := hw
          refine mw_bld (k := 4) (n := 4000) (i := x2) hx hb hK hP 4 3 rfl rfl h9i (by decide) dX12_cut_34 ?_
          refine lv_goto (tgt := 39) hx hb dX12_cut_35 (by decide) ?_
          exact L39 z A x1 x2 (A 4 (x2.toNat)) hw H locs ls hP hD hS (lv_sub hl [0, 1, 2] rfl)
  have hP := hP0; have hD := hD0; have hS := hS0; have hl := hl0; have hw := hw0
  obtain ⟨H, hH⟩ : ∃ H : Heap, H = s.heap := ⟨_, rfl⟩
  obtain ⟨locs, hlocs⟩ : ∃ L : List Loc, L = [] := ⟨_, rfl⟩
  rw [← hH] at hP
  have hS : va_S Ad s.heap H locs := by rw [hH, hlocs]; exact hS
  refine mw_HL hH hlocs ?_
  refine lv_aload_n hx hb dX12_cut_0 rfl (lv_at hl 0 rfl) ?_
  refine lv_iconst (v := hz_i 0) hx hb dX12_cut_1 (by decide +kernel) ?_
  refine mw_put (ty := .int) (v := .int (hz_i 0)) hx hb hts hin12 hown hK hP hD hS 10 (by decide) (hts (.fieldLink RX12 235 "HiddenMovesModel" "words" "I") (List.mem_cons_of_mem _ (List.mem_append_left _ (List.mem_of_getElem? (i := 0) rfl)))) (fun _ h9 => h9) rfl (by decide +kernel) rfl rfl (mw_s10 R z 0) dX12_cut_2 (fun H locs hP hD hS => ?_)
  obtain ⟨z_24, hz_24⟩ : ∃ y : Nat → Int, y = lp_U z 10 0 := ⟨_, rfl⟩
  rw [← hz_24] at hP hD
  have hw := hw z_24 hz_24
  refine lv_iconst (v := hz_i 1) hx hb dX12_cut_5 (by decide +kernel) ?_
  refine lv_istore_n (lv' := [(1, .int (hz_i 1)), (0, .ref om)]) hx hb dX12_cut_6 rfl hl (by decide) rfl (fun ls hl => ?_)
  refine lv_iconst (v := hz_i 0) hx hb dX12_cut_7 (by decide +kernel) ?_
  refine lv_istore_n (lv' := [(2, .int (hz_i 0)), (1, .int (hz_i 1)), (0, .ref om)]) hx hb dX12_cut_8 rfl hl (by decide) rfl (fun ls hl => ?_)
  exact L9 z_24 A 1 0 hw H locs ls hP hD hS (lv_sub hl [2, 1, 0] rfl)

noncomputable def wp_want (z : Nat → Int) (A : Nat → Nat → Int) (y1 : Int) (Q : (Nat → Int) → (Nat → Nat → Int) → Prop) : Prop := (0 ≤ z 12 ∧ z 12 < 16100) ∧ ∀ A_1 : Nat → Nat → Int, A_1 = hz_s A 11 (z 12) y1 → ∀ z_2 : Nat → Int, z_2 = lp_U z 12 ((z 12) + 1) → Q z_2 A_1
set_option maxHeartbeats 4000000 in
set_option maxRecDepth 100000 in
theorem k_want (l : Launch) (D : va_G) (sz : Nat) (om : Nat) (R : Nat → Nat) (C : Nat → ClassId) (z : Nat → Int) (A : Nat → Nat → Int) (y1 : Int) (Q : (Nat → Int) → (Nat → Nat → Int) → Prop) (hw : wp_want z A y1 Q) : Met l yX12_want wsX12_want ({ frames := 0, cells := 0, slots := 0, locals := 0 } : Room) (va_Pc [.ref om, .int (hz_i y1)] (hm_P D (mw_w om R C z A) (mw_t C) sz)) (va_Qv (S := Int × (Nat → Int) × (Nat → Nat → Int)) (fun u => Q u.2.1 u.2.2) (fun u t => hm_B D (va_A (mw_w om R C z A) sz) (mw_w om R C u.2.1 u.2.2) (mw_t C) t) (va_A (mw_w om R C z A) sz)) 0 0 (va_A (mw_w om R C z A) sz) := by
  refine Met.ofW (cc := cX12_want) (maxL := 2) (ret := none) (by decide) rfl ?_
  intro p e s m args below meth c s₁ B hml hv
  obtain ⟨rfl, hsz, hP, hK, hD0, hE⟩ := hv
  have hx := B.exec
  have hb := B.bytes
  have hr := B.returns
  have hts := atoms_spec (ws := wsX12_want) B.pre
  have hown : s.vm.findClass RX12 = some m.cls := findClass_of_methodNamed B.named
  have hlocks := B.notSynchronized
  have hin12 : ∀ w ∈ u_ws RX12 TX12 58, w ∈ wsX12_want := fun w h => List.mem_cons_of_mem _ (List.mem_append_right _ (h))
  subst hsz
  have hD := hD0.self (sz := s.heap.size)
  generalize hAe : va_A (mw_w om R C z A) s.heap.size = Ad at hD ⊢
  have hA : ∀ q : Nat, s.heap.size ≤ q → Ad q := fun q h => by rw [← hAe]; exact Or.inr h
  have hS : va_S Ad s.heap s.heap [] := va_S.rf
  have hl := lv_entry ([.ref om, .int (hz_i y1)]) (n := 2) (Nat.le_of_ble_eq_true rfl)
  rw [lg_entry_eq]
  generalize (lg_sl ([.ref om, .int (hz_i y1)]) ++ List.replicate (2 - (lg_sl ([.ref om, .int (hz_i y1)])).length) Slot.unset).toArray = ls at hl ⊢
  have hl : lv_has ls 2 [(0, .ref om), (1, .int (hz_i y1))] := hl
  refine mw_Q (fun QQ hQQ => ?_)
  have hP0 := hP; have hD0 := hD; have hS0 := hS; have hl0 := hl; have hw0 := hw
  clear hP hD hS hl hw
  have hP := hP0; have hD := hD0; have hS := hS0; have hl := hl0; have hw := hw0
  obtain ⟨H, hH⟩ : ∃ H : Heap, H = s.heap := ⟨_, rfl⟩
  obtain ⟨locs, hlocs⟩ : ∃ L : List Loc, L = [] := ⟨_, rfl⟩
  rw [← hH] at hP
  have hS : va_S Ad s.heap H locs := by rw [hH, hlocs]; exact hS
  refine mw_HL hH hlocs ?_
  refine lv_aload_n hx hb dX12_want_0 rfl (lv_at hl 0 rfl) ?_
  refine mw_get (v := .ref (R 11)) hx hb hts hin12 hown hK hP 11 (by decide) (hts (.fieldLink RX12 111 "HiddenMovesModel" "wanted" "[I") (List.mem_cons_of_mem _ (List.mem_append_left _ (List.mem_of_getElem? (i := 0) rfl)))) (fun _ h9 => h9) rfl dX12_want_1 ?_
  refine lv_aload_n hx hb dX12_want_4 rfl (lv_at hl 0 rfl) ?_
  refine mw_get (v := .int (hz_i (z 12))) hx hb hts hin12 hown hK hP 12 (by decide) (hts (.fieldLink RX12 244 "HiddenMovesModel" "wants" "I") (List.mem_cons_of_mem _ (List.mem_append_left _ (List.mem_of_getElem? (i := 1) rfl)))) (fun _ h9 => h9) rfl dX12_want_5 ?_
  refine lv_iload_n hx hb dX12_want_8 rfl (lv_at hl 1 rfl) ?_
  obtain ⟨h9i, hw⟩ := hw
  refine mw_ist (k := 11) (n := 16100) (i := z 12) (v := y1) hx hb hK hP hD hS 8 7 rfl rfl (mw_a11 om R C z A) h9i (by decide) dX12_want_9 (fun H locs hP hD hS => ?_)
  obtain ⟨A_1, hA_1⟩ : ∃ y : Nat → Nat → Int, y = hz_s A 11 (z 12) y1 := ⟨_, rfl⟩
  rw [← hA_1] at hP hD
  have hw := hw A_1 hA_1
  refine lv_aload_n hx hb dX12_want_10 rfl (lv_at hl 0 rfl) ?_
  refine lv_dup hx hb dX12_want_11 rfl ?_
  refine mw_get (v := .int (hz_i (z 12))) hx hb hts hin12 hown hK hP 12 (by decide) (hts (.fieldLink RX12 244 "HiddenMovesModel" "wants" "I") (List.mem_cons_of_mem _ (List.mem_append_left _ (List.mem_of_getElem? (i := 1) rfl)))) (fun _ h9 => h9) rfl dX12_want_12 ?_
  refine lv_iconst (v := hz_i 1) hx hb dX12_want_15 (by decide +kernel) ?_
  refine hz_iadd hx hb dX12_want_16 ?_
  refine mw_put (ty := .int) (v := .int (hz_i ((z 12) + 1))) hx hb hts hin12 hown hK hP hD hS 12 (by decide) (hts (.fieldLink RX12 244 "HiddenMovesModel" "wants" "I") (List.mem_cons_of_mem _ (List.mem_append_left _ (List.mem_of_getElem? (i := 1) rfl)))) (fun _ h9 => h9) rfl (by decide +kernel) rfl rfl (mw_s12 R z ((z 12) + 1)) dX12_want_17 (fun H locs hP hD hS => ?_)
  obtain ⟨z_2, hz_2⟩ : ∃ y : Nat → Int, y = lp_U z 12 ((z 12) + 1) := ⟨_, rfl⟩
  rw [← hz_2] at hP hD
  have hw := hw z_2 hz_2
  subst hQQ
  subst hAe
  exact W.vret hx hb hr (fun t ht hW => ⟨⟨(0, z_2, A_1), rfl, hw, by rw [ht]; exact hP, va_K.moved hW.alike hK, hD⟩, hS.F ht⟩) hS.2.2 dX12_want_20
