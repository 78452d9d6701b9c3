noncomputable def wp_node_105 (z : Nat → Int) (A : Nat → Nat → Int) (Q : Int → (Nat → Int) → (Nat → Nat → Int) → Prop) : Prop := Q 1 z A
noncomputable def wp_node_69 (z : Nat → Int) (A : Nat → Nat → Int) (Q : Int → (Nat → Int) → (Nat → Nat → Int) → Prop) : Prop := wp_want z A 41 (fun z_2 A_3 => wp_want z_2 A_3 305 (fun z_5 A_6 => wp_want z_5 A_6 300 (fun z_8 A_9 => wp_want z_8 A_9 40 (fun z_11 A_12 => wp_want z_11 A_12 1 (fun z_14 A_15 => wp_node_105 z_14 A_15  Q)))))
noncomputable def wp_node (z : Nat → Int) (A : Nat → Nat → Int) (y1 : Int) (Q : Int → (Nat → Int) → (Nat → Nat → Int) → Prop) : Prop := hz_rI y1 ∧ ((¬ y1 = 91 → hz_rI y1 ∧ ((¬ y1 = 63 → hz_rI y1 ∧ ((y1 = 65 → wp_node_69 z A  Q) ∧ (¬ (y1 = 65) → hz_rI y1 ∧ ((¬ y1 = 66 → Q 0 z A) ∧ (y1 = 66 → wp_node_69 z A  Q))))) ∧ (y1 = 63 → wp_want z A 41 (fun z_21 A_22 => wp_want z_21 A_22 304 (fun z_24 A_25 => wp_want z_24 A_25 303 (fun z_27 A_28 => wp_want z_27 A_28 40 (fun z_30 A_31 => wp_node_105 z_30 A_31  Q))))))) ∧ (y1 = 91 → wp_want z A 93 (fun z_33 A_34 => wp_want z_33 A_34 301 (fun z_36 A_37 => wp_node_105 z_36 A_37  Q))))
set_option maxHeartbeats 4000000 in
set_option maxRecDepth 100000 in
theorem k_node (l : Launch) (D : va_G) (sz : Nat) (om : Nat) (R : Nat → Nat) (C : Nat → ClassId) (z : Nat → Int) (A : Nat → Nat → Int) (y1 : Int) (Q : Int → (Nat → Int) → (Nat → Nat → Int) → Prop) (hw : wp_node z A y1 Q) : Met l yX12_node wsX12_node ({ frames := 1, cells := 0, slots := 0, locals := 21 } : Room) (va_Pc [.ref om, .int (hz_i y1)] (hm_P D (mw_w om R C z A) (mw_t C) sz)) (va_Qi (S := Int × (Nat → Int) × (Nat → Nat → Int)) (fun r u => r = hz_i u.1 ∧ Q u.1 u.2.1 u.2.2) (fun u t => hm_B D (va_A (mw_w om R C z A) sz) (mw_w om R C u.2.1 u.2.2) (mw_t C) t) (va_A (mw_w om R C z A) sz)) 0 0 (va_A (mw_w om R C z A) sz) := by
  refine Met.ofW (cc := cX12_node) (maxL := 2) (ret := (some .boolean)) (by decide) rfl ?_
  intro p e s m args below meth c s₁ B hml hv
  obtain ⟨rfl, hsz, hP, hK, hD0, hE⟩ := hv
  have hx := B.exec
  have hb := B.bytes
  have hr := B.returns
  have hts := atoms_spec (ws := wsX12_node) B.pre
  have hown : s.vm.findClass RX12 = some m.cls := findClass_of_methodNamed B.named
  have hlocks := B.notSynchronized
  subst hsz
  have hD := hD0.self (sz := s.heap.size)
  generalize hAe : va_A (mw_w om R C z A) s.heap.size = Ad at hD ⊢
  have hA : ∀ q : Nat, s.heap.size ≤ q → Ad q := fun q h => by rw [← hAe]; exact Or.inr h
  have hS : va_S Ad s.heap s.heap [] := va_S.rf
  have hl := lv_entry ([.ref om, .int (hz_i y1)]) (n := 2) (Nat.le_of_ble_eq_true rfl)
  rw [lg_entry_eq]
  generalize (lg_sl ([.ref om, .int (hz_i y1)]) ++ List.replicate (2 - (lg_sl ([.ref om, .int (hz_i y1)])).length) Slot.unset).toArray = ls at hl ⊢
  have hl : lv_has ls 2 [(0, .ref om), (1, .int (hz_i y1))] := hl
  refine mw_Q (fun QQ hQQ => ?_)
  have hP0 := hP; have hD0 := hD; have hS0 := hS; have hl0 := hl; have hw0 := hw
  clear hP hD hS hl hw
  have L105 : ∀ (z : Nat → Int) (A : Nat → Nat → Int), wp_node_105 z A  Q → ∀ (H : Heap) (locs : List Loc) (ls : Array Slot), va_P D vwCl (mw_w om R C z A) H → va_D Ad (mw_w om R C z A) → va_S Ad s.heap H locs → lv_has ls 2 [(0, .ref om)] → W p l e (headSpec wsX12_node ({ frames := 1, cells := 0, slots := 0, locals := 21 } : Room)).room s m (List.toArray [.ref om, .int (hz_i y1)]) below meth c H locs 0 0 QQ (F0 m 105 ls []) := by
    intro z A hw H locs ls hP hD hS hl
    refine lv_iconst (v := hz_i 1) hx hb dX12_node_105 (by decide +kernel) ?_
    subst hQQ
    subst hAe
    exact W.zret (v := hz_i 1) hx hb hr (hz_tZ (by decide)) (fun t ht hW => ⟨⟨hz_i 1, (1, z, A), rfl, ⟨rfl, hw⟩, by rw [ht]; exact hP, va_K.moved hW.alike hK, hD⟩, hS.F ht⟩) hS.2.2 dX12_node_106
  have L69 : ∀ (z : Nat → Int) (A : Nat → Nat → Int), wp_node_69 z A  Q → ∀ (H : Heap) (locs : List Loc) (ls : Array Slot), va_P D vwCl (mw_w om R C z A) H → va_D Ad (mw_w om R C z A) → va_S Ad s.heap H locs → lv_has ls 2 [(0, .ref om)] → W p l e (headSpec wsX12_node ({ frames := 1, cells := 0, slots := 0, locals := 21 } : Room)).room s m (List.toArray [.ref om, .int (hz_i y1)]) below meth c H locs 0 0 QQ (F0 m 69 ls []) := by
    intro z A hw H locs ls hP hD hS hl
    refine lv_aload_n hx hb dX12_node_69 rfl (lv_at hl 0 rfl) ?_
    refine lv_bipush (v := hz_i 41) hx hb dX12_node_70 (by decide +kernel) ?_
    have hFc := mw_free hD hS hA
    refine va_callv (va_runV (As := [.int (hz_i 41)]) (rest := []) ⟨hx, hb, hml, hown, hts⟩ (k_want l D _ om R C z A 41 _ hw) (cwV 1 hts gX12_node_X12_want rfl rfl rfl (by decide +kernel) ⟨Nat.le_of_ble_eq_true rfl, Nat.le_of_ble_eq_true rfl⟩) ⟨hm_blind, va_recv hK hP (ci := 12) (q0 := 0) rfl rfl, hm_pre hP hK hD hE⟩ rfl rfl hl.1 rfl (lv_room (Nat.le_of_ble_eq_true rfl)) dX12_node_72 ⟨Nat.le_of_ble_eq_true rfl, Nat.le_of_ble_eq_true rfl⟩) hS (fun q _ h => hFc q h) hFc (fun u t H1 locs ht hvm hw hB hz1 hk1 hS => ?_)
    obtain ⟨r_1, z_2, A_3⟩ := u
    obtain ⟨hP, hK1, hD1⟩ := hB
    rw [ht] at hP
    have hD := hD1.weaken (fun k q _ h => hFc q.1 h)
    have hP : va_P D vwCl (mw_w om R C z_2 A_3) H1 := hP
    have hD : va_D Ad (mw_w om R C z_2 A_3) := hD
    generalize H1 = H at hP hS ⊢
    refine W.eq (g2 := F0 m 75 ls []) rfl ?_
    refine lv_aload_n hx hb dX12_node_75 rfl (lv_at hl 0 rfl) ?_
    refine lv_sipush (v := hz_i 305) hx hb dX12_node_76 (by decide +kernel) ?_
    have hFc := mw_free hD hS hA
    refine va_callv (va_runV (As := [.int (hz_i 305)]) (rest := []) ⟨hx, hb, hml, hown, hts⟩ (k_want l D _ om R C z_2 A_3 305 _ hw) (cwV 1 hts gX12_node_X12_want rfl rfl rfl (by decide +kernel) ⟨Nat.le_of_ble_eq_true rfl, Nat.le_of_ble_eq_true rfl⟩) ⟨hm_blind, va_recv hK hP (ci := 12) (q0 := 0) rfl rfl, hm_pre hP hK hD hE⟩ rfl rfl hl.1 rfl (lv_room (Nat.le_of_ble_eq_true rfl)) dX12_node_79 ⟨Nat.le_of_ble_eq_true rfl, Nat.le_of_ble_eq_true rfl⟩) hS (fun q _ h => hFc q h) hFc (fun u t H1 locs ht hvm hw hB hz1 hk1 hS => ?_)
    obtain ⟨r_4, z_5, A_6⟩ := u
    obtain ⟨hP, hK1, hD1⟩ := hB
    rw [ht] at hP
    have hD := hD1.weaken (fun k q _ h => hFc q.1 h)
    have hP : va_P D vwCl (mw_w om R C z_5 A_6) H1 := hP
    have hD : va_D Ad (mw_w om R C z_5 A_6) := hD
    generalize H1 = H at hP hS ⊢
    refine W.eq (g2 := F0 m 82 ls []) rfl ?_
    refine lv_aload_n hx hb dX12_node_82 rfl (lv_at hl 0 rfl) ?_
    refine lv_sipush (v := hz_i 300) hx hb dX12_node_83 (by decide +kernel) ?_
    have hFc := mw_free hD hS hA
    refine va_callv (va_runV (As := [.int (hz_i 300)]) (rest := []) ⟨hx, hb, hml, hown, hts⟩ (k_want l D _ om R C z_5 A_6 300 _ hw) (cwV 1 hts gX12_node_X12_want rfl rfl rfl (by decide +kernel) ⟨Nat.le_of_ble_eq_true rfl, Nat.le_of_ble_eq_true rfl⟩) ⟨hm_blind, va_recv hK hP (ci := 12) (q0 := 0) rfl rfl, hm_pre hP hK hD hE⟩ rfl rfl hl.1 rfl (lv_room (Nat.le_of_ble_eq_true rfl)) dX12_node_86 ⟨Nat.le_of_ble_eq_true rfl, Nat.le_of_ble_eq_true rfl⟩) hS (fun q _ h => hFc q h) hFc (fun u t H1 locs ht hvm hw hB hz1 hk1 hS => ?_)
    obtain ⟨r_7, z_8, A_9⟩ := u
    obtain ⟨hP, hK1, hD1⟩ := hB
    rw [ht] at hP
    have hD := hD1.weaken (fun k q _ h => hFc q.1 h)
    have hP : va_P D vwCl (mw_w om R C z_8 A_9) H1 := hP
    have hD : va_D Ad (mw_w om R C z_8 A_9) := hD
    generalize H1 = H at hP hS ⊢
    refine W.eq (g2 := F0 m 89 ls []) rfl ?_
    refine lv_aload_n hx hb dX12_node_89 rfl (lv_at hl 0 rfl) ?_
    refine lv_bipush (v := hz_i 40) hx hb dX12_node_90 (by decide +kernel) ?_
    have hFc := mw_free hD hS hA
    refine va_callv (va_runV (As := [.int (hz_i 40)]) (rest := []) ⟨hx, hb, hml, hown, hts⟩ (k_want l D _ om R C z_8 A_9 40 _ hw) (cwV 1 hts gX12_node_X12_want rfl rfl rfl (by decide +kernel) ⟨Nat.le_of_ble_eq_true rfl, Nat.le_of_ble_eq_true rfl⟩) ⟨hm_blind, va_recv hK hP (ci := 12) (q0 := 0) rfl rfl, hm_pre hP hK hD hE⟩ rfl rfl hl.1 rfl (lv_room (Nat.le_of_ble_eq_true rfl)) dX12_node_92 ⟨Nat.le_of_ble_eq_true rfl, Nat.le_of_ble_eq_true rfl⟩) hS (fun q _ h => hFc q h) hFc (fun u t H1 locs ht hvm hw hB hz1 hk1 hS => ?_)
    obtain ⟨r_10, z_11, A_12⟩ := u
    obtain ⟨hP, hK1, hD1⟩ := hB
    rw [ht] at hP
    have hD := hD1.weaken (fun k q _ h => hFc q.1 h)
    have hP : va_P D vwCl (mw_w om R C z_11 A_12) H1 := hP
    have hD : va_D Ad (mw_w om R C z_11 A_12) := hD
    generalize H1 = H at hP hS ⊢
    refine W.eq (g2 := F0 m 95 ls []) rfl ?_
    refine lv_aload_n hx hb dX12_node_95 rfl (lv_at hl 0 rfl) ?_
    refine lv_iconst (v := hz_i 1) hx hb dX12_node_96 (by decide +kernel) ?_
    have hFc := mw_free hD hS hA
    refine va_callv (va_runV (As := [.int (hz_i 1)]) (rest := []) ⟨hx, hb, hml, hown, hts⟩ (k_want l D _ om R C z_11 A_12 1 _ hw) (cwV 1 hts gX12_node_X12_want rfl rfl rfl (by decide +kernel) ⟨Nat.le_of_ble_eq_true rfl, Nat.le_of_ble_eq_true rfl⟩) ⟨hm_blind, va_recv hK hP (ci := 12) (q0 := 0) rfl rfl, hm_pre hP hK hD hE⟩ rfl rfl hl.1 rfl (lv_room (Nat.le_of_ble_eq_true rfl)) dX12_node_97 ⟨Nat.le_of_ble_eq_true rfl, Nat.le_of_ble_eq_true rfl⟩) hS (fun q _ h => hFc q h) hFc (fun u t H1 locs ht hvm hw hB hz1 hk1 hS => ?_)
    obtain ⟨r_13, z_14, A_15⟩ := u
    obtain ⟨hP, hK1, hD1⟩ := hB
    rw [ht] at hP
    have hD := hD1.weaken (fun k q _ h => hFc q.1 h)
    have hP : va_P D vwCl (mw_w om R C z_14 A_15) H1 := hP
    have hD : va_D Ad (mw_w om R C z_14 A_15) := hD
    generalize H1 = H at hP hS ⊢
    refine W.eq (g2 := F0 m 100 ls []) rfl ?_
    refine lv_goto (tgt := 105) hx hb dX12_node_100 (by decide) ?_
    exact L105 z_14 A_15 hw H locs ls hP hD hS (lv_sub hl [0] rfl)
  have hP := hP0; have hD := hD0; have hS := hS0; have hl := hl0; have hw := hw0
  obtain ⟨H, hH⟩ : ∃ H : Heap, H = s.heap := ⟨_, rfl⟩
  obtain ⟨locs, hlocs⟩ : ∃ L : List Loc, L = [] := ⟨_, rfl⟩
  rw [← hH] at hP
  have hS : va_S Ad s.heap H locs := by rw [hH, hlocs]; exact hS
  refine mw_HL hH hlocs ?_
  refine lv_iload_n hx hb dX12_node_0 rfl (lv_at hl 1 rfl) ?_
  refine lv_bipush (v := hz_i 91) hx hb dX12_node_1 (by decide +kernel) ?_
  obtain ⟨h9a, hw⟩ := hw
  refine hz_icmp_ne (tgt := 22) hx hb dX12_node_3 (by decide) h9a ⟨by decide, by decide⟩ (fun c_16 => ?_) (fun c_16 => ?_)
  · have hw := hw.1 c_16
    refine lv_iload_n hx hb dX12_node_22 rfl (lv_at hl 1 rfl) ?_
    refine lv_bipush (v := hz_i 63) hx hb dX12_node_23 (by decide +kernel) ?_
    obtain ⟨h9a, hw⟩ := hw
    refine hz_icmp_ne (tgt := 57) hx hb dX12_node_25 (by decide) h9a ⟨by decide, by decide⟩ (fun c_17 => ?_) (fun c_17 => ?_)
    · have hw := hw.1 c_17
      refine lv_iload_n hx hb dX12_node_57 rfl (lv_at hl 1 rfl) ?_
      refine lv_bipush (v := hz_i 65) hx hb dX12_node_58 (by decide +kernel) ?_
      obtain ⟨h9a, hw⟩ := hw
      refine hz_icmp_eq (tgt := 69) hx hb dX12_node_60 (by decide) h9a ⟨by decide, by decide⟩ (fun c_18 => ?_) (fun c_18 => ?_)
      · have hw := hw.1 c_18
        exact L69 z A hw H locs ls hP hD hS (lv_sub hl [0] rfl)
      · have hw := hw.2 c_18
        refine lv_iload_n hx hb dX12_node_63 rfl (lv_at hl 1 rfl) ?_
        refine lv_bipush (v := hz_i 66) hx hb dX12_node_64 (by decide +kernel) ?_
        obtain ⟨h9a, hw⟩ := hw
        refine hz_icmp_ne (tgt := 103) hx hb dX12_node_66 (by decide) h9a ⟨by decide, by decide⟩ (fun c_19 => ?_) (fun c_19 => ?_)
        · have hw := hw.1 c_19
          refine lv_iconst (v := hz_i 0) hx hb dX12_node_103 (by decide +kernel) ?_
          subst hQQ
          subst hAe
          exact W.zret (v := hz_i 0) hx hb hr (hz_tZ (by decide)) (fun t ht hW => ⟨⟨hz_i 0, (0, z, A), rfl, ⟨rfl, hw⟩, by rw [ht]; exact hP, va_K.moved hW.alike hK, hD⟩, hS.F ht⟩) hS.2.2 dX12_node_104
        · have hw := hw.2 c_19
          exact L69 z A hw H locs ls hP hD hS (lv_sub hl [0] rfl)
    · have hw := hw.2 c_17
      refine lv_aload_n hx hb dX12_node_28 rfl (lv_at hl 0 rfl) ?_
      refine lv_bipush (v := hz_i 41) hx hb dX12_node_29 (by decide +kernel) ?_
      have hFc := mw_free hD hS hA
      refine va_callv (va_runV (As := [.int (hz_i 41)]) (rest := []) ⟨hx, hb, hml, hown, hts⟩ (k_want l D _ om R C z A 41 _ hw) (cwV 1 hts gX12_node_X12_want rfl rfl rfl (by decide +kernel) ⟨Nat.le_of_ble_eq_true rfl, Nat.le_of_ble_eq_true rfl⟩) ⟨hm_blind, va_recv hK hP (ci := 12) (q0 := 0) rfl rfl, hm_pre hP hK hD hE⟩ rfl rfl hl.1 rfl (lv_room (Nat.le_of_ble_eq_true rfl)) dX12_node_31 ⟨Nat.le_of_ble_eq_true rfl, Nat.le_of_ble_eq_true rfl⟩) hS (fun q _ h => hFc q h) hFc (fun u t H1 locs ht hvm hw hB hz1 hk1 hS => ?_)
      obtain ⟨r_20, z_21, A_22⟩ := u
      obtain ⟨hP, hK1, hD1⟩ := hB
      rw [ht] at hP
      have hD := hD1.weaken (fun k q _ h => hFc q.1 h)
      have hP : va_P D vwCl (mw_w om R C z_21 A_22) H1 := hP
      have hD : va_D Ad (mw_w om R C z_21 A_22) := hD
      generalize H1 = H at hP hS ⊢
      refine W.eq (g2 := F0 m 34 ls []) rfl ?_
      refine lv_aload_n hx hb dX12_node_34 rfl (lv_at hl 0 rfl) ?_
      refine lv_sipush (v := hz_i 304) hx hb dX12_node_35 (by decide +kernel) ?_
      have hFc := mw_free hD hS hA
      refine va_callv (va_runV (As := [.int (hz_i 304)]) (rest := []) ⟨hx, hb, hml, hown, hts⟩ (k_want l D _ om R C z_21 A_22 304 _ hw) (cwV 1 hts gX12_node_X12_want rfl rfl rfl (by decide +kernel) ⟨Nat.le_of_ble_eq_true rfl, Nat.le_of_ble_eq_true rfl⟩) ⟨hm_blind, va_recv hK hP (ci := 12) (q0 := 0) rfl rfl, hm_pre hP hK hD hE⟩ rfl rfl hl.1 rfl (lv_room (Nat.le_of_ble_eq_true rfl)) dX12_node_38 ⟨Nat.le_of_ble_eq_true rfl, Nat.le_of_ble_eq_true rfl⟩) hS (fun q _ h => hFc q h) hFc (fun u t H1 locs ht hvm hw hB hz1 hk1 hS => ?_)
      obtain ⟨r_23, z_24, A_25⟩ := u
      obtain ⟨hP, hK1, hD1⟩ := hB
      rw [ht] at hP
      have hD := hD1.weaken (fun k q _ h => hFc q.1 h)
      have hP : va_P D vwCl (mw_w om R C z_24 A_25) H1 := hP
      have hD : va_D Ad (mw_w om R C z_24 A_25) := hD
      generalize H1 = H at hP hS ⊢
      refine W.eq (g2 := F0 m 41 ls []) rfl ?_
      refine lv_aload_n hx hb dX12_node_41 rfl (lv_at hl 0 rfl) ?_
      refine lv_sipush (v := hz_i 303) hx hb dX12_node_42 (by decide +kernel) ?_
      have hFc := mw_free hD hS hA
      refine va_callv (va_runV (As := [.int (hz_i 303)]) (rest := []) ⟨hx, hb, hml, hown, hts⟩ (k_want l D _ om R C z_24 A_25 303 _ hw) (cwV 1 hts gX12_node_X12_want rfl rfl rfl (by decide +kernel) ⟨Nat.le_of_ble_eq_true rfl, Nat.le_of_ble_eq_true rfl⟩) ⟨hm_blind, va_recv hK hP (ci := 12) (q0 := 0) rfl rfl, hm_pre hP hK hD hE⟩ rfl rfl hl.1 rfl (lv_room (Nat.le_of_ble_eq_true rfl)) dX12_node_45 ⟨Nat.le_of_ble_eq_true rfl, Nat.le_of_ble_eq_true rfl⟩) hS (fun q _ h => hFc q h) hFc (fun u t H1 locs ht hvm hw hB hz1 hk1 hS => ?_)
      obtain ⟨r_26, z_27, A_28⟩ := u
      obtain ⟨hP, hK1, hD1⟩ := hB
      rw [ht] at hP
      have hD := hD1.weaken (fun k q _ h => hFc q.1 h)
      have hP : va_P D vwCl (mw_w om R C z_27 A_28) H1 := hP
      have hD : va_D Ad (mw_w om R C z_27 A_28) := hD
      generalize H1 = H at hP hS ⊢
      refine W.eq (g2 := F0 m 48 ls []) rfl ?_
      refine lv_aload_n hx hb dX12_node_48 rfl (lv_at hl 0 rfl) ?_
      refine lv_bipush (v := hz_i 40) hx hb dX12_node_49 (by decide +kernel) ?_
      have hFc := mw_free hD hS hA
      refine va_callv (va_runV (As := [.int (hz_i 40)]) (rest := []) ⟨hx, hb, hml, hown, hts⟩ (k_want l D _ om R C z_27 A_28 40 _ hw) (cwV 1 hts gX12_node_X12_want rfl rfl rfl (by decide +kernel) ⟨Nat.le_of_ble_eq_true rfl, Nat.le_of_ble_eq_true rfl⟩) ⟨hm_blind, va_recv hK hP (ci := 12) (q0 := 0) rfl rfl, hm_pre hP hK hD hE⟩ rfl rfl hl.1 rfl (lv_room (Nat.le_of_ble_eq_true rfl)) dX12_node_51 ⟨Nat.le_of_ble_eq_true rfl, Nat.le_of_ble_eq_true rfl⟩) hS (fun q _ h => hFc q h) hFc (fun u t H1 locs ht hvm hw hB hz1 hk1 hS => ?_)
      obtain ⟨r_29, z_30, A_31⟩ := u
      obtain ⟨hP, hK1, hD1⟩ := hB
      rw [ht] at hP
      have hD := hD1.weaken (fun k q _ h => hFc q.1 h)
      have hP : va_P D vwCl (mw_w om R C z_30 A_31) H1 := hP
      have hD : va_D Ad (mw_w om R C z_30 A_31) := hD
      generalize H1 = H at hP hS ⊢
      refine W.eq (g2 := F0 m 54 ls []) rfl ?_
      refine lv_goto (tgt := 105) hx hb dX12_node_54 (by decide) ?_
      exact L105 z_30 A_31 hw H locs ls hP hD hS (lv_sub hl [0] rfl)
  · have hw := hw.2 c_16
    refine lv_aload_n hx hb dX12_node_6 rfl (lv_at hl 0 rfl) ?_
    refine lv_bipush (v := hz_i 93) hx hb dX12_node_7 (by decide +kernel) ?_
    have hFc := mw_free hD hS hA
    refine va_callv (va_runV (As := [.int (hz_i 93)]) (rest := []) ⟨hx, hb, hml, hown, hts⟩ (k_want l D _ om R C z A 93 _ hw) (cwV 1 hts gX12_node_X12_want rfl rfl rfl (by decide +kernel) ⟨Nat.le_of_ble_eq_true rfl, Nat.le_of_ble_eq_true rfl⟩) ⟨hm_blind, va_recv hK hP (ci := 12) (q0 := 0) rfl rfl, hm_pre hP hK hD hE⟩ rfl rfl hl.1 rfl (lv_room (Nat.le_of_ble_eq_true rfl)) dX12_node_9 ⟨Nat.le_of_ble_eq_true rfl, Nat.le_of_ble_eq_true rfl⟩) hS (fun q _ h => hFc q h) hFc (fun u t H1 locs ht hvm hw hB hz1 hk1 hS => ?_)
    obtain ⟨r_32, z_33, A_34⟩ := u
    obtain ⟨hP, hK1, hD1⟩ := hB
    rw [ht] at hP
    have hD := hD1.weaken (fun k q _ h => hFc q.1 h)
    have hP : va_P D vwCl (mw_w om R C z_33 A_34) H1 := hP
    have hD : va_D Ad (mw_w om R C z_33 A_34) := hD
    generalize H1 = H at hP hS ⊢
    refine W.eq (g2 := F0 m 12 ls []) rfl ?_
    refine lv_aload_n hx hb dX12_node_12 rfl (lv_at hl 0 rfl) ?_
    refine lv_sipush (v := hz_i 301) hx hb dX12_node_13 (by decide +kernel) ?_
    have hFc := mw_free hD hS hA
    refine va_callv (va_runV (As := [.int (hz_i 301)]) (rest := []) ⟨hx, hb, hml, hown, hts⟩ (k_want l D _ om R C z_33 A_34 301 _ hw) (cwV 1 hts gX12_node_X12_want rfl rfl rfl (by decide +kernel) ⟨Nat.le_of_ble_eq_true rfl, Nat.le_of_ble_eq_true rfl⟩) ⟨hm_blind, va_recv hK hP (ci := 12) (q0 := 0) rfl rfl, hm_pre hP hK hD hE⟩ rfl rfl hl.1 rfl (lv_room (Nat.le_of_ble_eq_true rfl)) dX12_node_16 ⟨Nat.le_of_ble_eq_true rfl, Nat.le_of_ble_eq_true rfl⟩) hS (fun q _ h => hFc q h) hFc (fun u t H1 locs ht hvm hw hB hz1 hk1 hS => ?_)
    obtain ⟨r_35, z_36, A_37⟩ := u
    obtain ⟨hP, hK1, hD1⟩ := hB
    rw [ht] at hP
    have hD := hD1.weaken (fun k q _ h => hFc q.1 h)
    have hP : va_P D vwCl (mw_w om R C z_36 A_37) H1 := hP
    have hD : va_D Ad (mw_w om R C z_36 A_37) := hD
    generalize H1 = H at hP hS ⊢
    refine W.eq (g2 := F0 m 19 ls []) rfl ?_
    refine lv_goto (tgt := 105) hx hb dX12_node_19 (by decide) ?_
    exact L105 z_36 A_37 hw H locs ls hP hD hS (lv_sub hl [0] rfl)

noncomputable def wp_part_112 (z : Nat → Int) (A : Nat → Nat → Int) (t0 : Int) (Q : Int → (Nat → Int) → (Nat → Nat → Int) → Prop) : Prop := wp_want z A t0 (fun z_2 A_3 => Q 1 z_2 A_3)
noncomputable def wp_part_30 (z : Nat → Int) (A : Nat → Nat → Int) (t0 : Int) (Q : Int → (Nat → Int) → (Nat → Nat → Int) → Prop) : Prop := Q t0 z A
noncomputable def wp_part (z : Nat → Int) (A : Nat → Nat → Int) (y1 : Int) (y2 : Int) (Q : Int → (Nat → Int) → (Nat → Nat → Int) → Prop) : Prop := hz_rI y1 ∧ ((¬ y1 = 301 → hz_rI y1 ∧ ((¬ y1 = 302 → hz_rI y1 ∧ ((¬ y1 = 303 → hz_rI y2 ∧ ((y2 = 44 → wp_want z A y1 (fun z_9 A_10 => hz_rI y1 ∧ ((¬ y1 = 304 → wp_part_112 z_9 A_10 300  Q) ∧ (y1 = 304 → wp_part_112 z_9 A_10 303  Q)))) ∧ (¬ (y2 = 44) → Q 0 z A))) ∧ (y1 = 303 → wp_want z A 300 (fun z_13 A_14 => wp_want z_13 A_14 58 (fun z_16 A_17 => wp_want z_16 A_17 301 (fun z_19 A_20 => Q 0 z_19 A_20)))))) ∧ (y1 = 302 → hz_rI y2 ∧ ((¬ y2 = 47 → Q 0 z A) ∧ (y2 = 47 → wp_want z A 1 (fun z_23 A_24 => Q 1 z_23 A_24)))))) ∧ (y1 = 301 → wp_want z A 302 (fun z_26 A_27 => wp_want z_26 A_27 1 (fun z_29 A_30 => hz_rI y2 ∧ ((¬ y2 = 45 → wp_part_30 z_29 A_30 0  Q) ∧ (y2 = 45 → wp_part_30 z_29 A_30 1  Q))))))
set_option maxHeartbeats 4000000 in
set_option maxRecDepth 100000 in
theorem k_part (l : Launch) (D : va_G) (sz : Nat) (om : Nat) (R : Nat → Nat) (C : Nat → ClassId) (z : Nat → Int) (A : Nat → Nat → Int) (y1 : Int) (y2 : Int) (Q : Int → (Nat → Int) → (Nat → Nat → Int) → Prop) (hw : wp_part z A y1 y2 Q) : Met l yX12_part wsX12_part ({ frames := 1, cells := 0, slots := 0, locals := 21 } : Room) (va_Pc [.ref om, .int (hz_i y1), .int (hz_i y2)] (hm_P D (mw_w om R C z A) (mw_t C) sz)) (va_Qi (S := Int × (Nat → Int) × (Nat → Nat → Int)) (fun r u => r = hz_i u.1 ∧ Q u.1 u.2.1 u.2.2) (fun u t => hm_B D (va_A (mw_w om R C z A) sz) (mw_w om R C u.2.1 u.2.2) (mw_t C) t) (va_A (mw_w om R C z A) sz)) 0 0 (va_A (mw_w om R C z A) sz) := by
  refine Met.ofW (cc := cX12_part) (maxL := 3) (ret := (some .int)) (by decide) rfl ?_
  intro p e s m args below meth c s₁ B hml hv
  obtain ⟨rfl, hsz, hP, hK, hD0, hE⟩ := hv
  have hx := B.exec
  have hb := B.bytes
  have hr := B.returns
  have hts := atoms_spec (ws := wsX12_part) B.pre
  have hown : s.vm.findClass RX12 = some m.cls := findClass_of_methodNamed B.named
  have hlocks := B.notSynchronized
  subst hsz
  have hD := hD0.self (sz := s.heap.size)
  generalize hAe : va_A (mw_w om R C z A) s.heap.size = Ad at hD ⊢
  have hA : ∀ q : Nat, s.heap.size ≤ q → Ad q := fun q h => by rw [← hAe]; exact Or.inr h
  have hS : va_S Ad s.heap s.heap [] := va_S.rf
  have hl := lv_entry ([.ref om, .int (hz_i y1), .int (hz_i y2)]) (n := 3) (Nat.le_of_ble_eq_true rfl)
  rw [lg_entry_eq]
  generalize (lg_sl ([.ref om, .int (hz_i y1), .int (hz_i y2)]) ++ List.replicate (3 - (lg_sl ([.ref om, .int (hz_i y1), .int (hz_i y2)])).length) Slot.unset).toArray = ls at hl ⊢
  have hl : lv_has ls 3 [(0, .ref om), (1, .int (hz_i y1)), (2, .int (hz_i y2))] := hl
  refine mw_Q (fun QQ hQQ => ?_)
  have hP0 := hP; have hD0 := hD; have hS0 := hS; have hl0 := hl; have hw0 := hw
  clear hP hD hS hl hw
  have L112 : ∀ (z : Nat → Int) (A : Nat → Nat → Int) (t0 : Int), wp_part_112 z A t0  Q → ∀ (H : Heap) (locs : List Loc) (ls : Array Slot), va_P D vwCl (mw_w om R C z A) H → va_D Ad (mw_w om R C z A) → va_S Ad s.heap H locs → lv_has ls 3 [(0, .ref om)] → W p l e (headSpec wsX12_part ({ frames := 1, cells := 0, slots := 0, locals := 21 } : Room)).room s m (List.toArray [.ref om, .int (hz_i y1), .int (hz_i y2)]) below meth c H locs 0 0 QQ (F0 m 112 ls [.int (hz_i t0), .ref om]) := by
    intro z A t0 hw H locs ls hP hD hS hl
    have hFc := mw_free hD hS hA
    refine va_callv (va_runV (As := [.int (hz_i t0)]) (rest := []) ⟨hx, hb, hml, hown, hts⟩ (k_want l D _ om R C z A t0 _ hw) (cwV 1 hts gX12_part_X12_want rfl rfl rfl (by decide +kernel) ⟨Nat.le_of_ble_eq_true rfl, Nat.le_of_ble_eq_true rfl⟩) ⟨hm_blind, va_recv hK hP (ci := 12) (q0 := 0) rfl rfl, hm_pre hP hK hD hE⟩ rfl rfl hl.1 rfl (lv_room (Nat.le_of_ble_eq_true rfl)) dX12_part_112 ⟨Nat.le_of_ble_eq_true rfl, Nat.le_of_ble_eq_true rfl⟩) hS (fun q _ h => hFc q h) hFc (fun u t H1 locs ht hvm hw hB hz1 hk1 hS => ?_)
    obtain ⟨r_1, z_2, A_3⟩ := u
    obtain ⟨hP, hK1, hD1⟩ := hB
    rw [ht] at hP
    have hD := hD1.weaken (fun k q _ h => hFc q.1 h)
    have hP : va_P D vwCl (mw_w om R C z_2 A_3) H1 := hP
    have hD : va_D Ad (mw_w om R C z_2 A_3) := hD
    generalize H1 = H at hP hS ⊢
    refine W.eq (g2 := F0 m 115 ls []) rfl ?_
    refine lv_iconst (v := hz_i 1) hx hb dX12_part_115 (by decide +kernel) ?_
    subst hQQ
    subst hAe
    exact W.iret (v := hz_i 1) hx hb hr (fun t ht hW => ⟨⟨hz_i 1, (1, z_2, A_3), rfl, ⟨rfl, hw⟩, by rw [ht]; exact hP, va_K.moved hW.alike hK, hD⟩, hS.F ht⟩) hS.2.2 dX12_part_116
  have L30 : ∀ (z : Nat → Int) (A : Nat → Nat → Int) (t0 : Int), wp_part_30 z A t0  Q → ∀ (H : Heap) (locs : List Loc) (ls : Array Slot), va_P D vwCl (mw_w om R C z A) H → va_D Ad (mw_w om R C z A) → va_S Ad s.heap H locs → lv_has ls 3 [(0, .ref om)] → W p l e (headSpec wsX12_part ({ frames := 1, cells := 0, slots := 0, locals := 21 } : Room)).room s m (List.toArray [.ref om, .int (hz_i y1), .int (hz_i y2)]) below meth c H locs 0 0 QQ (F0 m 30 ls [.int (hz_i t0)]) := by
    intro z A t0 hw H locs ls hP hD hS hl
    subst hQQ
    subst hAe
    exact W.iret (v := hz_i t0) hx hb hr (fun t ht hW => ⟨⟨hz_i t0, (t0, z, A), rfl, ⟨rfl, hw⟩, by rw [ht]; exact hP, va_K.moved hW.alike hK, hD⟩, hS.F ht⟩) hS.2.2 dX12_part_30
  have hP := hP0; have hD := hD0; have hS := hS0; have hl := hl0; have hw := hw0
  obtain ⟨H, hH⟩ : ∃ H : Heap, H = s.heap := ⟨_, rfl⟩
  obtain ⟨locs, hlocs⟩ : ∃ L : List Loc, L = [] := ⟨_, rfl⟩
  rw [← hH] at hP
  have hS : va_S Ad s.heap H locs := by rw [hH, hlocs]; exact hS
  refine mw_HL hH hlocs ?_
  refine lv_iload_n hx hb dX12_part_0 rfl (lv_at hl 1 rfl) ?_
  refine lv_sipush (v := hz_i 301) hx hb dX12_part_1 (by decide +kernel) ?_
  obtain ⟨h9a, hw⟩ := hw
  refine hz_icmp_ne (tgt := 31) hx hb dX12_part_4 (by decide) h9a ⟨by decide, by decide⟩ (fun c_4 => ?_) (fun c_4 => ?_)
  · have hw := hw.1 c_4
    refine lv_iload_n hx hb dX12_part_31 rfl (lv_at hl 1 rfl) ?_
    refine lv_sipush (v := hz_i 302) hx hb dX12_part_32 (by decide +kernel) ?_
    obtain ⟨h9a, hw⟩ := hw
    refine hz_icmp_ne (tgt := 53) hx hb dX12_part_35 (by decide) h9a ⟨by decide, by decide⟩ (fun c_5 => ?_) (fun c_5 => ?_)
    · have hw := hw.1 c_5
      refine lv_iload_n hx hb dX12_part_53 rfl (lv_at hl 1 rfl) ?_
      refine lv_sipush (v := hz_i 303) hx hb dX12_part_54 (by decide +kernel) ?_
      obtain ⟨h9a, hw⟩ := hw
      refine hz_icmp_ne (tgt := 82) hx hb dX12_part_57 (by decide) h9a ⟨by decide, by decide⟩ (fun c_6 => ?_) (fun c_6 => ?_)
      · have hw := hw.1 c_6
        refine lv_iload_n hx hb dX12_part_82 rfl (lv_at hl 2 rfl) ?_
        refine lv_bipush (v := hz_i 44) hx hb dX12_part_83 (by decide +kernel) ?_
        obtain ⟨h9a, hw⟩ := hw
        refine hz_icmp_eq (tgt := 90) hx hb dX12_part_85 (by decide) h9a ⟨by decide, by decide⟩ (fun c_7 => ?_) (fun c_7 => ?_)
        · have hw := hw.1 c_7
          refine lv_aload_n hx hb dX12_part_90 rfl (lv_at hl 0 rfl) ?_
          refine lv_iload_n hx hb dX12_part_91 rfl (lv_at hl 1 rfl) ?_
          have hFc := mw_free hD hS hA
          refine va_callv (va_runV (As := [.int (hz_i y1)]) (rest := []) ⟨hx, hb, hml, hown, hts⟩ (k_want l D _ om R C z A y1 _ hw) (cwV 1 hts gX12_part_X12_want rfl rfl rfl (by decide +kernel) ⟨Nat.le_of_ble_eq_true rfl, Nat.le_of_ble_eq_true rfl⟩) ⟨hm_blind, va_recv hK hP (ci := 12) (q0 := 0) rfl rfl, hm_pre hP hK hD hE⟩ rfl rfl hl.1 rfl (lv_room (Nat.le_of_ble_eq_true rfl)) dX12_part_92 ⟨Nat.le_of_ble_eq_true rfl, Nat.le_of_ble_eq_true rfl⟩) hS (fun q _ h => hFc q h) hFc (fun u t H1 locs ht hvm hw hB hz1 hk1 hS => ?_)
          obtain ⟨r_8, z_9, A_10⟩ := u
          obtain ⟨hP, hK1, hD1⟩ := hB
          rw [ht] at hP
          have hD := hD1.weaken (fun k q _ h => hFc q.1 h)
          have hP : va_P D vwCl (mw_w om R C z_9 A_10) H1 := hP
          have hD : va_D Ad (mw_w om R C z_9 A_10) := hD
          generalize H1 = H at hP hS ⊢
          refine W.eq (g2 := F0 m 95 ls []) rfl ?_
          refine lv_aload_n hx hb dX12_part_95 rfl (lv_at hl 0 rfl) ?_
          refine lv_iload_n hx hb dX12_part_96 rfl (lv_at hl 1 rfl) ?_
          refine lv_sipush (v := hz_i 304) hx hb dX12_part_97 (by decide +kernel) ?_
          obtain ⟨h9a, hw⟩ := hw
          refine hz_icmp_ne (tgt := 109) hx hb dX12_part_100 (by decide) h9a ⟨by decide, by decide⟩ (fun c_11 => ?_) (fun c_11 => ?_)
          · have hw := hw.1 c_11
            refine lv_sipush (v := hz_i 300) hx hb dX12_part_109 (by decide +kernel) ?_
            exact L112 z_9 A_10 300 hw H locs ls hP hD hS (lv_sub hl [0] rfl)
          · have hw := hw.2 c_11
            refine lv_sipush (v := hz_i 303) hx hb dX12_part_103 (by decide +kernel) ?_
            refine lv_goto (tgt := 112) hx hb dX12_part_106 (by decide) ?_
            exact L112 z_9 A_10 303 hw H locs ls hP hD hS (lv_sub hl [0] rfl)
        · have hw := hw.2 c_7
          refine lv_iconst (v := hz_i 0) hx hb dX12_part_88 (by decide +kernel) ?_
          subst hQQ
          subst hAe
          exact W.iret (v := hz_i 0) hx hb hr (fun t ht hW => ⟨⟨hz_i 0, (0, z, A), rfl, ⟨rfl, hw⟩, by rw [ht]; exact hP, va_K.moved hW.alike hK, hD⟩, hS.F ht⟩) hS.2.2 dX12_part_89
      · have hw := hw.2 c_6
        refine lv_aload_n hx hb dX12_part_60 rfl (lv_at hl 0 rfl) ?_
        refine lv_sipush (v := hz_i 300) hx hb dX12_part_61 (by decide +kernel) ?_
        have hFc := mw_free hD hS hA
        refine va_callv (va_runV (As := [.int (hz_i 300)]) (rest := []) ⟨hx, hb, hml, hown, hts⟩ (k_want l D _ om R C z A 300 _ hw) (cwV 1 hts gX12_part_X12_want rfl rfl rfl (by decide +kernel) ⟨Nat.le_of_ble_eq_true rfl, Nat.le_of_ble_eq_true rfl⟩) ⟨hm_blind, va_recv hK hP (ci := 12) (q0 := 0) rfl rfl, hm_pre hP hK hD hE⟩ rfl rfl hl.1 rfl (lv_room (Nat.le_of_ble_eq_true rfl)) dX12_part_64 ⟨Nat.le_of_ble_eq_true rfl, Nat.le_of_ble_eq_true rfl⟩) hS (fun q _ h => hFc q h) hFc (fun u t H1 locs ht hvm hw hB hz1 hk1 hS => ?_)
        obtain ⟨r_12, z_13, A_14⟩ := u
        obtain ⟨hP, hK1, hD1⟩ := hB
        rw [ht] at hP
        have hD := hD1.weaken (fun k q _ h => hFc q.1 h)
        have hP : va_P D vwCl (mw_w om R C z_13 A_14) H1 := hP
        have hD : va_D Ad (mw_w om R C z_13 A_14) := hD
        generalize H1 = H at hP hS ⊢
        refine W.eq (g2 := F0 m 67 ls []) rfl ?_
        refine lv_aload_n hx hb dX12_part_67 rfl (lv_at hl 0 rfl) ?_
        refine lv_bipush (v := hz_i 58) hx hb dX12_part_68 (by decide +kernel) ?_
        have hFc := mw_free hD hS hA
        refine va_callv (va_runV (As := [.int (hz_i 58)]) (rest := []) ⟨hx, hb, hml, hown, hts⟩ (k_want l D _ om R C z_13 A_14 58 _ hw) (cwV 1 hts gX12_part_X12_want rfl rfl rfl (by decide +kernel) ⟨Nat.le_of_ble_eq_true rfl, Nat.le_of_ble_eq_true rfl⟩) ⟨hm_blind, va_recv hK hP (ci := 12) (q0 := 0) rfl rfl, hm_pre hP hK hD hE⟩ rfl rfl hl.1 rfl (lv_room (Nat.le_of_ble_eq_true rfl)) dX12_part_70 ⟨Nat.le_of_ble_eq_true rfl, Nat.le_of_ble_eq_true rfl⟩) hS (fun q _ h => hFc q h) hFc (fun u t H1 locs ht hvm hw hB hz1 hk1 hS => ?_)
        obtain ⟨r_15, z_16, A_17⟩ := u
        obtain ⟨hP, hK1, hD1⟩ := hB
        rw [ht] at hP
        have hD := hD1.weaken (fun k q _ h => hFc q.1 h)
        have hP : va_P D vwCl (mw_w om R C z_16 A_17) H1 := hP
        have hD : va_D Ad (mw_w om R C z_16 A_17) := hD
        generalize H1 = H at hP hS ⊢
        refine W.eq (g2 := F0 m 73 ls []) rfl ?_
        refine lv_aload_n hx hb dX12_part_73 rfl (lv_at hl 0 rfl) ?_
        refine lv_sipush (v := hz_i 301) hx hb dX12_part_74 (by decide +kernel) ?_
        have hFc := mw_free hD hS hA
        refine va_callv (va_runV (As := [.int (hz_i 301)]) (rest := []) ⟨hx, hb, hml, hown, hts⟩ (k_want l D _ om R C z_16 A_17 301 _ hw) (cwV 1 hts gX12_part_X12_want rfl rfl rfl (by decide +kernel) ⟨Nat.le_of_ble_eq_true rfl, Nat.le_of_ble_eq_true rfl⟩) ⟨hm_blind, va_recv hK hP (ci := 12) (q0 := 0) rfl rfl, hm_pre hP hK hD hE⟩ rfl rfl hl.1 rfl (lv_room (Nat.le_of_ble_eq_true rfl)) dX12_part_77 ⟨Nat.le_of_ble_eq_true rfl, Nat.le_of_ble_eq_true rfl⟩) hS (fun q _ h => hFc q h) hFc (fun u t H1 locs ht hvm hw hB hz1 hk1 hS => ?_)
        obtain ⟨r_18, z_19, A_20⟩ := u
        obtain ⟨hP, hK1, hD1⟩ := hB
        rw [ht] at hP
        have hD := hD1.weaken (fun k q _ h => hFc q.1 h)
        have hP : va_P D vwCl (mw_w om R C z_19 A_20) H1 := hP
        have hD : va_D Ad (mw_w om R C z_19 A_20) := hD
        generalize H1 = H at hP hS ⊢
        refine W.eq (g2 := F0 m 80 ls []) rfl ?_
        refine lv_iconst (v := hz_i 0) hx hb dX12_part_80 (by decide +kernel) ?_
        subst hQQ
        subst hAe
        exact W.iret (v := hz_i 0) hx hb hr (fun t ht hW => ⟨⟨hz_i 0, (0, z_19, A_20), rfl, ⟨rfl, hw⟩, by rw [ht]; exact hP, va_K.moved hW.alike hK, hD⟩, hS.F ht⟩) hS.2.2 dX12_part_81
    · have hw := hw.2 c_5
      refine lv_iload_n hx hb dX12_part_38 rfl (lv_at hl 2 rfl) ?_
      refine lv_bipush (v := hz_i 47) hx hb dX12_part_39 (by decide +kernel) ?_
      obtain ⟨h9a, hw⟩ := hw
      refine hz_icmp_ne (tgt := 51) hx hb dX12_part_41 (by decide) h9a ⟨by decide, by decide⟩ (fun c_21 => ?_) (fun c_21 => ?_)
      · have hw := hw.1 c_21
        refine lv_iconst (v := hz_i 0) hx hb dX12_part_51 (by decide +kernel) ?_
        subst hQQ
        subst hAe
        exact W.iret (v := hz_i 0) hx hb hr (fun t ht hW => ⟨⟨hz_i 0, (0, z, A), rfl, ⟨rfl, hw⟩, by rw [ht]; exact hP, va_K.moved hW.alike hK, hD⟩, hS.F ht⟩) hS.2.2 dX12_part_52
      · have hw := hw.2 c_21
        refine lv_aload_n hx hb dX12_part_44 rfl (lv_at hl 0 rfl) ?_
        refine lv_iconst (v := hz_i 1) hx hb dX12_part_45 (by decide +kernel) ?_
        have hFc := mw_free hD hS hA
        refine va_callv (va_runV (As := [.int (hz_i 1)]) (rest := []) ⟨hx, hb, hml, hown, hts⟩ (k_want l D _ om R C z A 1 _ hw) (cwV 1 hts gX12_part_X12_want rfl rfl rfl (by decide +kernel) ⟨Nat.le_of_ble_eq_true rfl, Nat.le_of_ble_eq_true rfl⟩) ⟨hm_blind, va_recv hK hP (ci := 12) (q0 := 0) rfl rfl, hm_pre hP hK hD hE⟩ rfl rfl hl.1 rfl (lv_room (Nat.le_of_ble_eq_true rfl)) dX12_part_46 ⟨Nat.le_of_ble_eq_true rfl, Nat.le_of_ble_eq_true rfl⟩) hS (fun q _ h => hFc q h) hFc (fun u t H1 locs ht hvm hw hB hz1 hk1 hS => ?_)
        obtain ⟨r_22, z_23, A_24⟩ := u
        obtain ⟨hP, hK1, hD1⟩ := hB
        rw [ht] at hP
        have hD := hD1.weaken (fun k q _ h => hFc q.1 h)
        have hP : va_P D vwCl (mw_w om R C z_23 A_24) H1 := hP
        have hD : va_D Ad (mw_w om R C z_23 A_24) := hD
        generalize H1 = H at hP hS ⊢
        refine W.eq (g2 := F0 m 49 ls []) rfl ?_
        refine lv_iconst (v := hz_i 1) hx hb dX12_part_49 (by decide +kernel) ?_
        subst hQQ
        subst hAe
        exact W.iret (v := hz_i 1) hx hb hr (fun t ht hW => ⟨⟨hz_i 1, (1, z_23, A_24), rfl, ⟨rfl, hw⟩, by rw [ht]; exact hP, va_K.moved hW.alike hK, hD⟩, hS.F ht⟩) hS.2.2 dX12_part_50
  · have hw := hw.2 c_4
    refine lv_aload_n hx hb dX12_part_7 rfl (lv_at hl 0 rfl) ?_
    refine lv_sipush (v := hz_i 302) hx hb dX12_part_8 (by decide +kernel) ?_
    have hFc := mw_free hD hS hA
    refine va_callv (va_runV (As := [.int (hz_i 302)]) (rest := []) ⟨hx, hb, hml, hown, hts⟩ (k_want l D _ om R C z A 302 _ hw) (cwV 1 hts gX12_part_X12_want rfl rfl rfl (by decide +kernel) ⟨Nat.le_of_ble_eq_true rfl, Nat.le_of_ble_eq_true rfl⟩) ⟨hm_blind, va_recv hK hP (ci := 12) (q0 := 0) rfl rfl, hm_pre hP hK hD hE⟩ rfl rfl hl.1 rfl (lv_room (Nat.le_of_ble_eq_true rfl)) dX12_part_11 ⟨Nat.le_of_ble_eq_true rfl, Nat.le_of_ble_eq_true rfl⟩) hS (fun q _ h => hFc q h) hFc (fun u t H1 locs ht hvm hw hB hz1 hk1 hS => ?_)
    obtain ⟨r_25, z_26, A_27⟩ := u
    obtain ⟨hP, hK1, hD1⟩ := hB
    rw [ht] at hP
    have hD := hD1.weaken (fun k q _ h => hFc q.1 h)
    have hP : va_P D vwCl (mw_w om R C z_26 A_27) H1 := hP
    have hD : va_D Ad (mw_w om R C z_26 A_27) := hD
    generalize H1 = H at hP hS ⊢
    refine W.eq (g2 := F0 m 14 ls []) rfl ?_
    refine lv_aload_n hx hb dX12_part_14 rfl (lv_at hl 0 rfl) ?_
    refine lv_iconst (v := hz_i 1) hx hb dX12_part_15 (by decide +kernel) ?_
    have hFc := mw_free hD hS hA
    refine va_callv (va_runV (As := [.int (hz_i 1)]) (rest := []) ⟨hx, hb, hml, hown, hts⟩ (k_want l D _ om R C z_26 A_27 1 _ hw) (cwV 1 hts gX12_part_X12_want rfl rfl rfl (by decide +kernel) ⟨Nat.le_of_ble_eq_true rfl, Nat.le_of_ble_eq_true rfl⟩) ⟨hm_blind, va_recv hK hP (ci := 12) (q0 := 0) rfl rfl, hm_pre hP hK hD hE⟩ rfl rfl hl.1 rfl (lv_room (Nat.le_of_ble_eq_true rfl)) dX12_part_16 ⟨Nat.le_of_ble_eq_true rfl, Nat.le_of_ble_eq_true rfl⟩) hS (fun q _ h => hFc q h) hFc (fun u t H1 locs ht hvm hw hB hz1 hk1 hS => ?_)
    obtain ⟨r_28, z_29, A_30⟩ := u
    obtain ⟨hP, hK1, hD1⟩ := hB
    rw [ht] at hP
    have hD := hD1.weaken (fun k q _ h => hFc q.1 h)
    have hP : va_P D vwCl (mw_w om R C z_29 A_30) H1 := hP
    have hD : va_D Ad (mw_w om R C z_29 A_30) := hD
    generalize H1 = H at hP hS ⊢
    refine W.eq (g2 := F0 m 19 ls []) rfl ?_
    refine lv_iload_n hx hb dX12_part_19 rfl (lv_at hl 2 rfl) ?_
    refine lv_bipush (v := hz_i 45) hx hb dX12_part_20 (by decide +kernel) ?_
    obtain ⟨h9a, hw⟩ := hw
    refine hz_icmp_ne (tgt := 29) hx hb dX12_part_22 (by decide) h9a ⟨by decide, by decide⟩ (fun c_31 => ?_) (fun c_31 => ?_)
    · have hw := hw.1 c_31
      refine lv_iconst (v := hz_i 0) hx hb dX12_part_29 (by decide +kernel) ?_
      exact L30 z_29 A_30 0 hw H locs ls hP hD hS (lv_sub hl [0] rfl)
    · have hw := hw.2 c_31
      refine lv_iconst (v := hz_i 1) hx hb dX12_part_25 (by decide +kernel) ?_
      refine lv_goto (tgt := 30) hx hb dX12_part_26 (by decide) ?_
      exact L30 z_29 A_30 1 hw H locs ls hP hD hS (lv_sub hl [0] rfl)

noncomputable def wp_bad_105 (z : Nat → Int) (A : Nat → Nat → Int) (x1 : Int) (P19 : (Nat → Int) → (Nat → Nat → Int) → Int → Prop) (Q : Int → (Nat → Int) → (Nat → Nat → Int) → Prop) : Prop := P19 z A x1
noncomputable def wp_bad_19 (z : Nat → Int) (A : Nat → Nat → Int) (x1 : Int) (Q : Int → (Nat → Int) → (Nat → Nat → Int) → Prop) : Prop := ∀ P19 : (Nat → Int) → (Nat → Nat → Int) → Int → Prop, (∀ (z : Nat → Int) (A : Nat → Nat → Int) (x1 : Int), hz_rI (z 12) ∧ ((z 12 ≤ 0 → Q (-1) z A) ∧ (¬ (z 12 ≤ 0) → ∀ z_2 : Nat → Int, z_2 = lp_U z 12 ((z 12) - 1) → (0 ≤ z_2 12 ∧ z_2 12 < 16100) ∧ ∀ x2_3 : Int, x2_3 = A 11 ((z_2 12).toNat) → (0 ≤ x1 ∧ x1 < 4001) ∧ ∀ x3_4 : Int, x3_4 = A 7 (x1.toNat) → hz_rI x2_3 ∧ ((300 ≤ x2_3 → hz_rI x2_3 ∧ ((¬ x2_3 = 300 → wp_part z_2 A x2_3 x3_4 (fun r_7 z_8 A_9 => ∀ x1_10 : Int, x1_10 = x1 + r_7 → wp_bad_105 z_8 A_9 x1_10 P19 Q)) ∧ (x2_3 = 300 → wp_node z_2 A x3_4 (fun r_11 z_12 A_13 => hz_rI r_11 ∧ ((¬ r_11 = 0 → ∀ x1_15 : Int, x1_15 = x1 + 1 → wp_bad_105 z_12 A_13 x1_15 P19 Q) ∧ (r_11 = 0 → Q x1 z_12 A_13)))))) ∧ (¬ (300 ≤ x2_3) → hz_rI x3_4 ∧ hz_rI x2_3 ∧ ((x3_4 = x2_3 → ∀ x1_17 : Int, x1_17 = x1 + 1 → wp_bad_105 z_2 A x1_17 P19 Q) ∧ (¬ (x3_4 = x2_3) → Q x1 z_2 A)))))) → P19 z A x1) → P19 z A x1
noncomputable def wp_bad (z : Nat → Int) (A : Nat → Nat → Int) (Q : Int → (Nat → Int) → (Nat → Nat → Int) → Prop) : Prop := ∀ z_18 : Nat → Int, z_18 = lp_U z 12 0 → wp_want z_18 A 0 (fun z_20 A_21 => wp_want z_20 A_21 300 (fun z_23 A_24 => wp_bad_19 z_23 A_24 0  Q))
set_option maxHeartbeats 4000000 in
set_option maxRecDepth 100000 in
theorem k_bad (l : Launch) (D : va_G) (sz : Nat) (om : Nat) (R : Nat → Nat) (C : Nat → ClassId) (z : Nat → Int) (A : Nat → Nat → Int) (Q : Int → (Nat → Int) → (Nat → Nat → Int) → Prop) (hw : wp_bad z A Q) : Met l yX12_bad wsX12_bad ({ frames := 2, cells := 0, slots := 0, locals := 43 } : Room) (va_Pc [.ref om] (hm_P D (mw_w om R C z A) (mw_t C) sz)) (va_Qi (S := Int × (Nat → Int) × (Nat → Nat → Int)) (fun r u => r = hz_i u.1 ∧ Q u.1 u.2.1 u.2.2) (fun u t => hm_B D (va_A (mw_w om R C z A) sz) (mw_w om R C u.2.1 u.2.2) (mw_t C) t) (va_A (mw_w om R C z A) sz)) 0 0 (va_A (mw_w om R C z A) sz) := by
  refine Met.ofW (cc := cX12_bad) (maxL := 4) (ret := (some .int)) (by decide) rfl ?_
  intro p e s m args below meth c s₁ B hml hv
  obtain ⟨rfl, hsz, hP, hK, hD0, hE⟩ := hv
  have hx := B.exec
  have hb := B.bytes
  have hr := B.returns
  have hts := atoms_spec (ws := wsX12_bad) B.pre
  have hown : s.vm.findClass RX12 = some m.cls := findClass_of_methodNamed B.named
  have hlocks := B.notSynchronized
  have hin12 : ∀ w ∈ u_ws RX12 TX12 58, w ∈ wsX12_bad := fun w h => List.mem_cons_of_mem _ (List.mem_append_right _ (h))
  subst hsz
  have hD := hD0.self (sz := s.heap.size)
  generalize hAe : va_A (mw_w om R C z A) s.heap.size = Ad at hD ⊢
  have hA : ∀ q : Nat, s.heap.size ≤ q → Ad q := fun q h => by rw [← hAe]; exact Or.inr h
  have hS : va_S Ad s.heap s.heap [] := va_S.rf
  have hl := lv_entry ([.ref om]) (n := 4) (Nat.le_of_ble_eq_true rfl)
  rw [lg_entry_eq]
  generalize (lg_sl ([.ref om]) ++ List.replicate (4 - (lg_sl ([.ref om])).length) Slot.unset).toArray = ls at hl ⊢
  have hl : lv_has ls 4 [(0, .ref om)] := hl
  refine mw_Q (fun QQ hQQ => ?_)
  have hP0 := hP; have hD0 := hD; have hS0 := hS; have hl0 := hl; have hw0 := hw
  clear hP hD hS hl hw
  have L19 : ∀ (z : Nat → Int) (A : Nat → Nat → Int) (x1 : Int), wp_bad_19 z A x1  Q → ∀ (H : Heap) (locs : List Loc) (ls : Array Slot), va_P D vwCl (mw_w om R C z A) H → va_D Ad (mw_w om R C z A) → va_S Ad s.heap H locs → lv_has ls 4 [(0, .ref om), (1, .int (hz_i x1))] → W p l e (headSpec wsX12_bad ({ frames := 2, cells := 0, slots := 0, locals := 43 } : Room)).room s m (List.toArray [.ref om]) below meth c H locs 0 0 QQ (F0 m 19 ls []) := by
    intro z A x1 hw
    obtain ⟨P19, hP19⟩ : ∃ P : (Nat → Int) → (Nat → Nat → Int) → Int → Prop, ∀ (z : Nat → Int) (A : Nat → Nat → Int) (x1 : Int), P z A x1 ↔ (∀ (H : Heap) (locs : List Loc) (ls : Array Slot), va_P D vwCl (mw_w om R C z A) H → va_D Ad (mw_w om R C z A) → va_S Ad s.heap H locs → lv_has ls 4 [(0, .ref om), (1, .int (hz_i x1))] → W p l e (headSpec wsX12_bad ({ frames := 2, cells := 0, slots := 0, locals := 43 } : Room)).room s m (List.toArray [.ref om]) below meth c H locs 0 0 QQ (F0 m 19 ls [])) := ⟨fun (z : Nat → Int) (A : Nat → Nat → Int) (x1 : Int) => ∀ (H : Heap) (locs : List Loc) (ls : Array Slot), va_P D vwCl (mw_w om R C z A) H → va_D Ad (mw_w om R C z A) → va_S Ad s.heap H locs → lv_has ls 4 [(0, .ref om), (1, .int (hz_i x1))] → W p l e (headSpec wsX12_bad ({ frames := 2, cells := 0, slots := 0, locals := 43 } : Room)).room s m (List.toArray [.ref om]) below meth c H locs 0 0 QQ (F0 m 19 ls []), fun _ _ _ => Iff.rfl⟩
    refine (hP19 z A x1).mp (hw P19 ?_)
    intro z A x1 hw
    refine (hP19 z A x1).mpr ?_
    intro H locs ls hP hD hS hl
    have L105 : ∀ (z : Nat → Int) (A : Nat → Nat → Int) (x1 : Int), wp_bad_105 z A x1 P19 Q → ∀ (H : Heap) (locs : List Loc) (ls : Array Slot), va_P D vwCl (mw_w om R C z A) H → va_D Ad (mw_w om R C z A) → va_S Ad s.heap H locs → lv_has ls 4 [(0, .ref om), (1, .int (hz_i x1))] → W p l e (headSpec wsX12_bad ({ frames := 2, cells := 0, slots := 0, locals := 43 } : Room)).room s m (List.toArray [.ref om]) below meth c H locs 0 0 QQ (F0 m 105 ls []) := by
      intro z A x1 hw H locs ls hP hD hS hl
      refine lv_goto (tgt := 19) hx hb dX12_bad_105 (by decide) ?_
      exact (hP19 z A x1).mp hw H locs ls hP hD hS (lv_sub hl [0, 1] rfl)
    refine lv_aload_n hx hb dX12_bad_19 rfl (lv_at hl 0 rfl) ?_
    refine mw_get (v := .int (hz_i (z 12))) hx hb hts hin12 hown hK hP 12 (by decide) (hts (.fieldLink RX12 244 "HiddenMovesModel" "wants" "I") (List.mem_cons_of_mem _ (List.mem_append_left _ (List.mem_of_getElem? (i := 0) rfl)))) (fun _ h9 => h9) rfl dX12_bad_20 ?_
    obtain ⟨h9a, hw⟩ := hw
    refine hz_if_le (tgt := 108) hx hb dX12_bad_23 (by decide) h9a (fun c_1 => ?_) (fun c_1 => ?_)
    · have hw := hw.1 c_1
      refine lv_iconst (v := hz_i (-1)) hx hb dX12_bad_108 (by decide +kernel) ?_
      subst hQQ
      subst hAe
      exact W.iret (v := hz_i (-1)) hx hb hr (fun t ht hW => ⟨⟨hz_i (-1), ((-1), z, A), rfl, ⟨rfl, hw⟩, by rw [ht]; exact hP, va_K.moved hW.alike hK, hD⟩, hS.F ht⟩) hS.2.2 dX12_bad_109
    · have hw := hw.2 c_1
      refine lv_aload_n hx hb dX12_bad_26 rfl (lv_at hl 0 rfl) ?_
      refine lv_dup hx hb dX12_bad_27 rfl ?_
      refine mw_get (v := .int (hz_i (z 12))) hx hb hts hin12 hown hK hP 12 (by decide) (hts (.fieldLink RX12 244 "HiddenMovesModel" "wants" "I") (List.mem_cons_of_mem _ (List.mem_append_left _ (List.mem_of_getElem? (i := 0) rfl)))) (fun _ h9 => h9) rfl dX12_bad_28 ?_
      refine lv_iconst (v := hz_i 1) hx hb dX12_bad_31 (by decide +kernel) ?_
      refine hz_isub hx hb dX12_bad_32 ?_
      refine mw_put (ty := .int) (v := .int (hz_i ((z 12) - 1))) hx hb hts hin12 hown hK hP hD hS 12 (by decide) (hts (.fieldLink RX12 244 "HiddenMovesModel" "wants" "I") (List.mem_cons_of_mem _ (List.mem_append_left _ (List.mem_of_getElem? (i := 0) rfl)))) (fun _ h9 => h9) rfl (by decide +kernel) rfl rfl (mw_s12 R z ((z 12) - 1)) dX12_bad_33 (fun H locs hP hD hS => ?_)
      obtain ⟨z_2, hz_2⟩ : ∃ y : Nat → Int, y = lp_U z 12 ((z 12) - 1) := ⟨_, rfl⟩
      rw [← hz_2] at hP hD
      have hw := hw z_2 hz_2
      refine lv_aload_n hx hb dX12_bad_36 rfl (lv_at hl 0 rfl) ?_
      refine mw_get (v := .ref (R 11)) hx hb hts hin12 hown hK hP 11 (by decide) (hts (.fieldLink RX12 111 "HiddenMovesModel" "wanted" "[I") (List.mem_cons_of_mem _ (List.mem_append_left _ (List.mem_of_getElem? (i := 1) rfl)))) (fun _ h9 => h9) rfl dX12_bad_37 ?_
      refine lv_aload_n hx hb dX12_bad_40 rfl (lv_at hl 0 rfl) ?_
      refine mw_get (v := .int (hz_i (z_2 12))) hx hb hts hin12 hown hK hP 12 (by decide) (hts (.fieldLink RX12 244 "HiddenMovesModel" "wants" "I") (List.mem_cons_of_mem _ (List.mem_append_left _ (List.mem_of_getElem? (i := 0) rfl)))) (fun _ h9 => h9) rfl dX12_bad_41 ?_
      obtain ⟨h9i, hw⟩ := hw
      refine mw_ild (k := 11) (n := 16100) (i := z_2 12) hx hb hK hP 8 7 rfl rfl h9i (by decide) dX12_bad_44 ?_
      refine hz_topi (fun x2_3 hx2_3 => ?_)
      have hw := hw x2_3 hx2_3
      refine lv_istore_n (lv' := [(2, .int (hz_i x2_3)), (0, .ref om), (1, .int (hz_i x1))]) hx hb dX12_bad_45 rfl hl (by decide) rfl (fun ls hl => ?_)
      refine lv_aload_n hx hb dX12_bad_46 rfl (lv_at hl 1 rfl) ?_
      refine mw_get (v := .ref (R 7)) hx hb hts hin12 hown hK hP 7 (by decide) (hts (.fieldLink RX12 102 "HiddenMovesModel" "kinds" "[I") (List.mem_cons_of_mem _ (List.mem_append_left _ (List.mem_of_getElem? (i := 2) rfl)))) (fun _ h9 => h9) rfl dX12_bad_47 ?_
      refine lv_iload_n hx hb dX12_bad_50 rfl (lv_at hl 2 rfl) ?_
      obtain ⟨h9i, hw⟩ := hw
      refine mw_ild (k := 7) (n := 4001) (i := x1) hx hb hK hP 5 4 rfl rfl h9i (by decide) dX12_bad_51 ?_
      refine hz_topi (fun x3_4 hx3_4 => ?_)
      have hw := hw x3_4 hx3_4
      refine lv_istore_n (lv' := [(3, .int (hz_i x3_4)), (2, .int (hz_i x2_3)), (0, .ref om), (1, .int (hz_i x1))]) hx hb dX12_bad_52 rfl hl (by decide) rfl (fun ls hl => ?_)
      refine lv_iload_n hx hb dX12_bad_53 rfl (lv_at hl 1 rfl) ?_
      refine lv_sipush (v := hz_i 300) hx hb dX12_bad_54 (by decide +kernel) ?_
      obtain ⟨h9a, hw⟩ := hw
      refine hz_icmp_ge (tgt := 73) hx hb dX12_bad_57 (by decide) h9a ⟨by decide, by decide⟩ (fun c_5 => ?_) (fun c_5 => ?_)
      · have hw := hw.1 c_5
        refine lv_iload_n hx hb dX12_bad_73 rfl (lv_at hl 1 rfl) ?_
        refine lv_sipush (v := hz_i 300) hx hb dX12_bad_74 (by decide +kernel) ?_
        obtain ⟨h9a, hw⟩ := hw
        refine hz_icmp_ne (tgt := 96) hx hb dX12_bad_77 (by decide) h9a ⟨by decide, by decide⟩ (fun c_6 => ?_) (fun c_6 => ?_)
        · have hw := hw.1 c_6
          refine lv_iload_n hx hb dX12_bad_96 rfl (lv_at hl 3 rfl) ?_
          refine lv_aload_n hx hb dX12_bad_97 rfl (lv_at hl 2 rfl) ?_
          refine lv_iload_n hx hb dX12_bad_98 rfl (lv_at hl 1 rfl) ?_
          refine lv_iload_n hx hb dX12_bad_99 rfl (lv_at hl 0 rfl) ?_
          have hFc := mw_free hD hS hA
          refine va_calli (va_runV (As := [.int (hz_i x2_3), .int (hz_i x3_4)]) (rest := [.int (hz_i x1)]) ⟨hx, hb, hml, hown, hts⟩ (k_part l D _ om R C z_2 A x2_3 x3_4 _ hw) (cwV 2 hts gX12_bad_X12_part rfl rfl rfl (by decide +kernel) ⟨Nat.le_of_ble_eq_true rfl, Nat.le_of_ble_eq_true rfl⟩) ⟨hm_blind, va_recv hK hP (ci := 12) (q0 := 0) rfl rfl, hm_pre hP hK hD hE⟩ rfl rfl hl.1 rfl (lv_room (Nat.le_of_ble_eq_true rfl)) dX12_bad_100 ⟨Nat.le_of_ble_eq_true rfl, Nat.le_of_ble_eq_true rfl⟩) hS (fun q _ h => hFc q h) hFc (fun rv u t H1 locs ht hvm hw hB hz1 hk1 hS => ?_)
          obtain ⟨r_7, z_8, A_9⟩ := u
          obtain ⟨hP, hK1, hD1⟩ := hB
          rw [ht] at hP
          obtain ⟨hrv, hw⟩ := hw
          subst hrv
          have hD := hD1.weaken (fun k q _ h => hFc q.1 h)
          have hP : va_P D vwCl (mw_w om R C z_8 A_9) H1 := hP
          have hD : va_D Ad (mw_w om R C z_8 A_9) := hD
          generalize H1 = H at hP hS ⊢
          refine W.eq (g2 := F0 m 103 ls [.int (hz_i r_7), .int (hz_i x1)]) rfl ?_
          refine hz_iadd hx hb dX12_bad_103 ?_
          refine hz_topi (fun x1_10 hx1_10 => ?_)
          have hw := hw x1_10 hx1_10
          refine lv_istore_n (lv' := [(1, .int (hz_i x1_10)), (3, .int (hz_i x3_4)), (2, .int (hz_i x2_3)), (0, .ref om)]) hx hb dX12_bad_104 rfl hl (by decide) rfl (fun ls hl => ?_)
          exact L105 z_8 A_9 x1_10 hw H locs ls hP hD hS (lv_sub hl [3, 0] rfl)
        · have hw := hw.2 c_6
          refine lv_aload_n hx hb dX12_bad_80 rfl (lv_at hl 2 rfl) ?_
          refine lv_iload_n hx hb dX12_bad_81 rfl (lv_at hl 0 rfl) ?_
          have hFc := mw_free hD hS hA
          refine va_calli (va_runV (As := [.int (hz_i x3_4)]) (rest := []) ⟨hx, hb, hml, hown, hts⟩ (k_node l D _ om R C z_2 A x3_4 _ hw) (cwV 1 hts gX12_bad_X12_node rfl rfl rfl (by decide +kernel) ⟨Nat.le_of_ble_eq_true rfl, Nat.le_of_ble_eq_true rfl⟩) ⟨hm_blind, va_recv hK hP (ci := 12) (q0 := 0) rfl rfl, hm_pre hP hK hD hE⟩ rfl rfl hl.1 rfl (lv_room (Nat.le_of_ble_eq_true rfl)) dX12_bad_82 ⟨Nat.le_of_ble_eq_true rfl, Nat.le_of_ble_eq_true rfl⟩) hS (fun q _ h => hFc q h) hFc (fun rv u t H1 locs ht hvm hw hB hz1 hk1 hS => ?_)
          obtain ⟨r_11, z_12, A_13⟩ := u
          obtain ⟨hP, hK1, hD1⟩ := hB
          rw [ht] at hP
          obtain ⟨hrv, hw⟩ := hw
          subst hrv
          have hD := hD1.weaken (fun k q _ h => hFc q.1 h)
          have hP : va_P D vwCl (mw_w om R C z_12 A_13) H1 := hP
          have hD : va_D Ad (mw_w om R C z_12 A_13) := hD
          generalize H1 = H at hP hS ⊢
          refine W.eq (g2 := F0 m 85 ls [.int (hz_i r_11)]) rfl ?_
          obtain ⟨h9a, hw⟩ := hw
          refine hz_if_ne (tgt := 90) hx hb dX12_bad_85 (by decide) h9a (fun c_14 => ?_) (fun c_14 => ?_)
          · have hw := hw.1 c_14
            obtain ⟨x1_15, hx1_15⟩ : ∃ y : Int, y = x1 + 1 := ⟨_, rfl⟩
            have hw := hw x1_15 hx1_15
            refine lv_iinc (v := hz_i x1_15) (lv' := [(1, .int (hz_i x1_15)), (3, .int (hz_i x3_4)), (2, .int (hz_i x2_3)), (0, .ref om)]) hx hb dX12_bad_90 hl (k := 3) rfl (by rw [hx1_15]; exact hz_i_add _ _) (by decide) rfl (fun ls hl => ?_)
            refine lv_goto (tgt := 105) hx hb dX12_bad_93 (by decide) ?_
            exact L105 z_12 A_13 x1_15 hw H locs ls hP hD hS (lv_sub hl [3, 0] rfl)
          · have hw := hw.2 c_14
            refine lv_iload_n hx hb dX12_bad_88 rfl (lv_at hl 3 rfl) ?_
            subst hQQ
            subst hAe
            exact W.iret (v := hz_i x1) hx hb hr (fun t ht hW => ⟨⟨hz_i x1, (x1, z_12, A_13), rfl, ⟨rfl, hw⟩, by rw [ht]; exact hP, va_K.moved hW.alike hK, hD⟩, hS.F ht⟩) hS.2.2 dX12_bad_89
      · have hw := hw.2 c_5
        refine lv_iload_n hx hb dX12_bad_60 rfl (lv_at hl 0 rfl) ?_
        refine lv_iload_n hx hb dX12_bad_61 rfl (lv_at hl 1 rfl) ?_
        obtain ⟨h9a, hw⟩ := hw
        obtain ⟨h9b, hw⟩ := hw
        refine hz_icmp_eq (tgt := 67) hx hb dX12_bad_62 (by decide) h9a h9b (fun c_16 => ?_) (fun c_16 => ?_)
        · have hw := hw.1 c_16
          obtain ⟨x1_17, hx1_17⟩ : ∃ y : Int, y = x1 + 1 := ⟨_, rfl⟩
          have hw := hw x1_17 hx1_17
          refine lv_iinc (v := hz_i x1_17) (lv' := [(1, .int (hz_i x1_17)), (3, .int (hz_i x3_4)), (2, .int (hz_i x2_3)), (0, .ref om)]) hx hb dX12_bad_67 hl (k := 3) rfl (by rw [hx1_17]; exact hz_i_add _ _) (by decide) rfl (fun ls hl => ?_)
          refine lv_goto (tgt := 105) hx hb dX12_bad_70 (by decide) ?_
          exact L105 z_2 A x1_17 hw H locs ls hP hD hS (lv_sub hl [3, 0] rfl)
        · have hw := hw.2 c_16
          refine lv_iload_n hx hb dX12_bad_65 rfl (lv_at hl 3 rfl) ?_
          subst hQQ
          subst hAe
          exact W.iret (v := hz_i x1) hx hb hr (fun t ht hW => ⟨⟨hz_i x1, (x1, z_2, A), rfl, ⟨rfl, hw⟩, by rw [ht]; exact hP, va_K.moved hW.alike hK, hD⟩, hS.F ht⟩) hS.2.2 dX12_bad_66
  have hP := hP0; have hD := hD0; have hS := hS0; have hl := hl0; have hw := hw0
  obtain ⟨H, hH⟩ : ∃ H : Heap, H = s.heap := ⟨_, rfl⟩
  obtain ⟨locs, hlocs⟩ : ∃ L : List Loc, L = [] := ⟨_, rfl⟩
  rw [← hH] at hP
  have hS : va_S Ad s.heap H locs := by rw [hH, hlocs]; exact hS
  refine mw_HL hH hlocs ?_
  refine lv_aload_n hx hb dX12_bad_0 rfl (lv_at hl 0 rfl) ?_
  refine lv_iconst (v := hz_i 0) hx hb dX12_bad_1 (by decide +kernel) ?_
  refine mw_put (ty := .int) (v := .int (hz_i 0)) hx hb hts hin12 hown hK hP hD hS 12 (by decide) (hts (.fieldLink RX12 244 "HiddenMovesModel" "wants" "I") (List.mem_cons_of_mem _ (List.mem_append_left _ (List.mem_of_getElem? (i := 0) rfl)))) (fun _ h9 => h9) rfl (by decide +kernel) rfl rfl (mw_s12 R z 0) dX12_bad_2 (fun H locs hP hD hS => ?_)
  obtain ⟨z_18, hz_18⟩ : ∃ y : Nat → Int, y = lp_U z 12 0 := ⟨_, rfl⟩
  rw [← hz_18] at hP hD
  have hw := hw z_18 hz_18
  refine lv_aload_n hx hb dX12_bad_5 rfl (lv_at hl 0 rfl) ?_
  refine lv_iconst (v := hz_i 0) hx hb dX12_bad_6 (by decide +kernel) ?_
  have hFc := mw_free hD hS hA
  refine va_callv (va_runV (As := [.int (hz_i 0)]) (rest := []) ⟨hx, hb, hml, hown, hts⟩ (k_want l D _ om R C z_18 A 0 _ hw) (cwV 1 hts gX12_bad_X12_want rfl rfl rfl (by decide +kernel) ⟨Nat.le_of_ble_eq_true rfl, Nat.le_of_ble_eq_true rfl⟩) ⟨hm_blind, va_recv hK hP (ci := 12) (q0 := 0) rfl rfl, hm_pre hP hK hD hE⟩ rfl rfl hl.1 rfl (lv_room (Nat.le_of_ble_eq_true rfl)) dX12_bad_7 ⟨Nat.le_of_ble_eq_true rfl, Nat.le_of_ble_eq_true rfl⟩) hS (fun q _ h => hFc q h) hFc (fun u t H1 locs ht hvm hw hB hz1 hk1 hS => ?_)
  obtain ⟨r_19, z_20, A_21⟩ := u
  obtain ⟨hP, hK1, hD1⟩ := hB
  rw [ht] at hP
  have hD := hD1.weaken (fun k q _ h => hFc q.1 h)
  have hP : va_P D vwCl (mw_w om R C z_20 A_21) H1 := hP
  have hD : va_D Ad (mw_w om R C z_20 A_21) := hD
  generalize H1 = H at hP hS ⊢
  refine W.eq (g2 := F0 m 10 ls []) rfl ?_
  refine lv_aload_n hx hb dX12_bad_10 rfl (lv_at hl 0 rfl) ?_
  refine lv_sipush (v := hz_i 300) hx hb dX12_bad_11 (by decide +kernel) ?_
  have hFc := mw_free hD hS hA
  refine va_callv (va_runV (As := [.int (hz_i 300)]) (rest := []) ⟨hx, hb, hml, hown, hts⟩ (k_want l D _ om R C z_20 A_21 300 _ hw) (cwV 1 hts gX12_bad_X12_want rfl rfl rfl (by decide +kernel) ⟨Nat.le_of_ble_eq_true rfl, Nat.le_of_ble_eq_true rfl⟩) ⟨hm_blind, va_recv hK hP (ci := 12) (q0 := 0) rfl rfl, hm_pre hP hK hD hE⟩ rfl rfl hl.1 rfl (lv_room (Nat.le_of_ble_eq_true rfl)) dX12_bad_14 ⟨Nat.le_of_ble_eq_true rfl, Nat.le_of_ble_eq_true rfl⟩) hS (fun q _ h => hFc q h) hFc (fun u t H1 locs ht hvm hw hB hz1 hk1 hS => ?_)
  obtain ⟨r_22, z_23, A_24⟩ := u
  obtain ⟨hP, hK1, hD1⟩ := hB
  rw [ht] at hP
  have hD := hD1.weaken (fun k q _ h => hFc q.1 h)
  have hP : va_P D vwCl (mw_w om R C z_23 A_24) H1 := hP
  have hD : va_D Ad (mw_w om R C z_23 A_24) := hD
  generalize H1 = H at hP hS ⊢
  refine W.eq (g2 := F0 m 17 ls []) rfl ?_
  refine lv_iconst (v := hz_i 0) hx hb dX12_bad_17 (by decide +kernel) ?_
  refine lv_istore_n (lv' := [(1, .int (hz_i 0)), (0, .ref om)]) hx hb dX12_bad_18 rfl hl (by decide) rfl (fun ls hl => ?_)
  exact L19 z_23 A_24 0 hw H locs ls hP hD hS (lv_sub hl [1, 0] rfl)

noncomputable def wp_plansOf_5 (z : Nat → Int) (A : Nat → Nat → Int) (y1 : Int) (y2 : Int) (x3 : Int) (x4 : Int) (Q : Int → Prop) : Prop := ∀ P5 : Int → Int → Prop, (∀ (x3 : Int) (x4 : Int), (0 ≤ (2 * y1) + y2 ∧ (2 * y1) + y2 < 4) ∧ hz_rI x4 ∧ hz_rI (A 26 (((2 * y1) + y2).toNat)) ∧ ((A 26 (((2 * y1) + y2).toNat) ≤ x4 → Q x3) ∧ (¬ (A 26 (((2 * y1) + y2).toNat) ≤ x4) → (0 ≤ ((20 * y1) + (10 * y2)) + x4 ∧ ((20 * y1) + (10 * y2)) + x4 < 40) ∧ ∀ x3_2 : Int, x3_2 = x3 * (A 28 ((((20 * y1) + (10 * y2)) + x4).toNat)) → ∀ x4_3 : Int, x4_3 = x4 + 1 → P5 x3_2 x4_3)) → P5 x3 x4) → P5 x3 x4
noncomputable def wp_plansOf (z : Nat → Int) (A : Nat → Nat → Int) (y1 : Int) (y2 : Int) (Q : Int → Prop) : Prop := wp_plansOf_5 z A y1 y2 1 0  Q
set_option maxHeartbeats 4000000 in
set_option maxRecDepth 100000 in
theorem k_plansOf (l : Launch) (D : va_G) (sz : Nat) (om : Nat) (R : Nat → Nat) (C : Nat → ClassId) (z : Nat → Int) (A : Nat → Nat → Int) (y1 : Int) (y2 : Int) (Q : Int → Prop) (hw : wp_plansOf z A y1 y2 Q) : Met l yX12_plansOf wsX12_plansOf ({ frames := 0, cells := 0, slots := 0, locals := 0 } : Room) (va_Pc [.ref om, .int (hz_i y1), .int (hz_i y2)] (hm_P D (mw_w om R C z A) (mw_t C) sz)) (va_Qi (S := Int × (Nat → Int) × (Nat → Nat → Int)) (fun r u => r = hz_i u.1 ∧ Q u.1) (fun u t => hm_B D (va_A (mw_w om R C z A) sz) (mw_w om R C z A) (mw_t C) t) (va_A (mw_w om R C z A) sz)) 0 0 (va_A (mw_w om R C z A) sz) := by
  refine Met.ofW (cc := cX12_plansOf) (maxL := 5) (ret := (some .int)) (by decide) rfl ?_
  intro p e s m args below meth c s₁ B hml hv
  obtain ⟨rfl, hsz, hP, hK, hD0, hE⟩ := hv
  have hx := B.exec
  have hb := B.bytes
  have hr := B.returns
  have hts := atoms_spec (ws := wsX12_plansOf) B.pre
  have hown : s.vm.findClass RX12 = some m.cls := findClass_of_methodNamed B.named
  have hlocks := B.notSynchronized
  have hin12 : ∀ w ∈ u_ws RX12 TX12 58, w ∈ wsX12_plansOf := fun w h => List.mem_cons_of_mem _ (List.mem_append_right _ (h))
  subst hsz
  have hD := hD0.self (sz := s.heap.size)
  generalize hAe : va_A (mw_w om R C z A) s.heap.size = Ad at hD ⊢
  have hA : ∀ q : Nat, s.heap.size ≤ q → Ad q := fun q h => by rw [← hAe]; exact Or.inr h
  have hS : va_S Ad s.heap s.heap [] := va_S.rf
  have hl := lv_entry ([.ref om, .int (hz_i y1), .int (hz_i y2)]) (n := 5) (Nat.le_of_ble_eq_true rfl)
  rw [lg_entry_eq]
  generalize (lg_sl ([.ref om, .int (hz_i y1), .int (hz_i y2)]) ++ List.replicate (5 - (lg_sl ([.ref om, .int (hz_i y1), .int (hz_i y2)])).length) Slot.unset).toArray = ls at hl ⊢
  have hl : lv_has ls 5 [(0, .ref om), (1, .int (hz_i y1)), (2, .int (hz_i y2))] := hl
  refine mw_Q (fun QQ hQQ => ?_)
  have hP0 := hP; have hD0 := hD; have hS0 := hS; have hl0 := hl; have hw0 := hw
  clear hP hD hS hl hw
  have L5 : ∀ (x3 : Int) (x4 : Int), wp_plansOf_5 z A y1 y2 x3 x4  Q → ∀ (H : Heap) (locs : List Loc) (ls : Array Slot), va_P D vwCl (mw_w om R C z A) H → va_D Ad (mw_w om R C z A) → va_S Ad s.heap H locs → lv_has ls 5 [(0, .ref om), (1, .int (hz_i y1)), (2, .int (hz_i y2)), (3, .int (hz_i x3)), (4, .int (hz_i x4))] → W p l e (headSpec wsX12_plansOf ({ frames := 0, cells := 0, slots := 0, locals := 0 } : Room)).room s m (List.toArray [.ref om, .int (hz_i y1), .int (hz_i y2)]) below meth c H locs 0 0 QQ (F0 m 5 ls []) := by
    intro x3 x4 hw
    obtain ⟨P5, hP5⟩ : ∃ P : Int → Int → Prop, ∀ (x3 : Int) (x4 : Int), P x3 x4 ↔ (∀ (H : Heap) (locs : List Loc) (ls : Array Slot), va_P D vwCl (mw_w om R C z A) H → va_D Ad (mw_w om R C z A) → va_S Ad s.heap H locs → lv_has ls 5 [(0, .ref om), (1, .int (hz_i y1)), (2, .int (hz_i y2)), (3, .int (hz_i x3)), (4, .int (hz_i x4))] → W p l e (headSpec wsX12_plansOf ({ frames := 0, cells := 0, slots := 0, locals := 0 } : Room)).room s m (List.toArray [.ref om, .int (hz_i y1), .int (hz_i y2)]) below meth c H locs 0 0 QQ (F0 m 5 ls [])) := ⟨fun (x3 : Int) (x4 : Int) => ∀ (H : Heap) (locs : List Loc) (ls : Array Slot), va_P D vwCl (mw_w om R C z A) H → va_D Ad (mw_w om R C z A) → va_S Ad s.heap H locs → lv_has ls 5 [(0, .ref om), (1, .int (hz_i y1)), (2, .int (hz_i y2)), (3, .int (hz_i x3)), (4, .int (hz_i x4))] → W p l e (headSpec wsX12_plansOf ({ frames := 0, cells := 0, slots := 0, locals := 0 } : Room)).room s m (List.toArray [.ref om, .int (hz_i y1), .int (hz_i y2)]) below meth c H locs 0 0 QQ (F0 m 5 ls []), fun _ _ => Iff.rfl⟩
    refine (hP5 x3 x4).mp (hw P5 ?_)
    intro x3 x4 hw
    refine (hP5 x3 x4).mpr ?_
    intro H locs ls hP hD hS hl
    refine lv_iload hx hb dX12_plansOf_5 (lv_at hl 4 rfl) ?_
    refine lv_aload_n hx hb dX12_plansOf_7 rfl (lv_at hl 0 rfl) ?_
    refine mw_get (v := .ref (R 26)) hx hb hts hin12 hown hK hP 26 (by decide) (hts (.fieldLink RX12 154 "HiddenMovesModel" "many" "[I") (List.mem_cons_of_mem _ (List.mem_append_left _ (List.mem_of_getElem? (i := 0) rfl)))) (fun _ h9 => h9) rfl dX12_plansOf_8 ?_
    refine lv_iconst (v := hz_i 2) hx hb dX12_plansOf_11 (by decide +kernel) ?_
    refine lv_iload_n hx hb dX12_plansOf_12 rfl (lv_at hl 1 rfl) ?_
    refine hz_imul hx hb dX12_plansOf_13 ?_
    refine lv_iload_n hx hb dX12_plansOf_14 rfl (lv_at hl 2 rfl) ?_
    refine hz_iadd hx hb dX12_plansOf_15 ?_
    obtain ⟨h9i, hw⟩ := hw
    refine mw_ild (k := 26) (n := 4) (i := (2 * y1) + y2) hx hb hK hP 22 21 rfl rfl h9i (by decide) dX12_plansOf_16 ?_
    obtain ⟨h9a, hw⟩ := hw
    obtain ⟨h9b, hw⟩ := hw
    refine hz_icmp_ge (tgt := 46) hx hb dX12_plansOf_17 (by decide) h9a h9b (fun c_1 => ?_) (fun c_1 => ?_)
    · have hw := hw.1 c_1
      refine lv_iload_n hx hb dX12_plansOf_46 rfl (lv_at hl 3 rfl) ?_
      subst hQQ
      subst hAe
      exact W.iret (v := hz_i x3) hx hb hr (fun t ht hW => ⟨⟨hz_i x3, (x3, z, A), rfl, ⟨rfl, hw⟩, by rw [ht]; exact hP, va_K.moved hW.alike hK, hD⟩, hS.F ht⟩) hS.2.2 dX12_plansOf_47
    · have hw := hw.2 c_1
      refine lv_iload_n hx hb dX12_plansOf_20 rfl (lv_at hl 3 rfl) ?_
      refine lv_aload_n hx hb dX12_plansOf_21 rfl (lv_at hl 0 rfl) ?_
      refine mw_get (v := .ref (R 28)) hx hb hts hin12 hown hK hP 28 (by decide) (hts (.fieldLink RX12 160 "HiddenMovesModel" "moves" "[I") (List.mem_cons_of_mem _ (List.mem_append_left _ (List.mem_of_getElem? (i := 1) rfl)))) (fun _ h9 => h9) rfl dX12_plansOf_22 ?_
      refine lv_bipush (v := hz_i 20) hx hb dX12_plansOf_25 (by decide +kernel) ?_
      refine lv_iload_n hx hb dX12_plansOf_27 rfl (lv_at hl 1 rfl) ?_
      refine hz_imul hx hb dX12_plansOf_28 ?_
      refine lv_bipush (v := hz_i 10) hx hb dX12_plansOf_29 (by decide +kernel) ?_
      refine lv_iload_n hx hb dX12_plansOf_31 rfl (lv_at hl 2 rfl) ?_
      refine hz_imul hx hb dX12_plansOf_32 ?_
      refine hz_iadd hx hb dX12_plansOf_33 ?_
      refine lv_iload hx hb dX12_plansOf_34 (lv_at hl 4 rfl) ?_
      refine hz_iadd hx hb dX12_plansOf_36 ?_
      obtain ⟨h9i, hw⟩ := hw
      refine mw_ild (k := 28) (n := 40) (i := ((20 * y1) + (10 * y2)) + x4) hx hb hK hP 24 23 rfl rfl h9i (by decide) dX12_plansOf_37 ?_
      refine hz_imul hx hb dX12_plansOf_38 ?_
      refine hz_topi (fun x3_2 hx3_2 => ?_)
      have hw := hw x3_2 hx3_2
      refine lv_istore_n (lv' := [(3, .int (hz_i x3_2)), (0, .ref om), (1, .int (hz_i y1)), (2, .int (hz_i y2)), (4, .int (hz_i x4))]) hx hb dX12_plansOf_39 rfl hl (by decide) rfl (fun ls hl => ?_)
      obtain ⟨x4_3, hx4_3⟩ : ∃ y : Int, y = x4 + 1 := ⟨_, rfl⟩
      have hw := hw x4_3 hx4_3
      refine lv_iinc (v := hz_i x4_3) (lv' := [(4, .int (hz_i x4_3)), (3, .int (hz_i x3_2)), (0, .ref om), (1, .int (hz_i y1)), (2, .int (hz_i y2))]) hx hb dX12_plansOf_40 hl (k := 4) rfl (by rw [hx4_3]; exact hz_i_add _ _) (by decide) rfl (fun ls hl => ?_)
      refine lv_goto (tgt := 5) hx hb dX12_plansOf_43 (by decide) ?_
      exact (hP5 x3_2 x4_3).mp hw H locs ls hP hD hS (lv_sub hl [2, 3, 4, 1, 0] rfl)
  have hP := hP0; have hD := hD0; have hS := hS0; have hl := hl0; have hw := hw0
  obtain ⟨H, hH⟩ : ∃ H : Heap, H = s.heap := ⟨_, rfl⟩
  obtain ⟨locs, hlocs⟩ : ∃ L : List Loc, L = [] := ⟨_, rfl⟩
  rw [← hH] at hP
  have hS : va_S Ad s.heap H locs := by rw [hH, hlocs]; exact hS
  refine mw_HL hH hlocs ?_
  refine lv_iconst (v := hz_i 1) hx hb dX12_plansOf_0 (by decide +kernel) ?_
  refine lv_istore_n (lv' := [(3, .int (hz_i 1)), (0, .ref om), (1, .int (hz_i y1)), (2, .int (hz_i y2))]) hx hb dX12_plansOf_1 rfl hl (by decide) rfl (fun ls hl => ?_)
  refine lv_iconst (v := hz_i 0) hx hb dX12_plansOf_2 (by decide +kernel) ?_
  refine lv_istore (lv' := [(4, .int (hz_i 0)), (3, .int (hz_i 1)), (0, .ref om), (1, .int (hz_i y1)), (2, .int (hz_i y2))]) hx hb dX12_plansOf_3 hl (by decide) rfl (fun ls hl => ?_)
  exact L5 1 0 hw H locs ls hP hD hS (lv_sub hl [2, 3, 4, 1, 0] rfl)

noncomputable def wp_stop_22 (z : Nat → Int) (A : Nat → Nat → Int) (Q : (Nat → Int) → Prop) : Prop := Q z
noncomputable def wp_stop (z : Nat → Int) (A : Nat → Nat → Int) (y1 : Int) (y2 : Int) (Q : (Nat → Int) → Prop) : Prop := hz_rI (z 35) ∧ ((¬ z 35 = 0 → wp_stop_22 z A  Q) ∧ (z 35 = 0 → ∀ z_2 : Nat → Int, z_2 = lp_U z 35 y1 → (0 ≤ y2 ∧ y2 < 4001) ∧ ∀ z_3 : Nat → Int, z_3 = lp_U z_2 36 (A 8 (y2.toNat)) → wp_stop_22 z_3 A  Q))
set_option maxHeartbeats 4000000 in
set_option maxRecDepth 100000 in
theorem k_stop (l : Launch) (D : va_G) (sz : Nat) (om : Nat) (R : Nat → Nat) (C : Nat → ClassId) (z : Nat → Int) (A : Nat → Nat → Int) (y1 : Int) (y2 : Int) (Q : (Nat → Int) → Prop) (hw : wp_stop z A y1 y2 Q) : Met l yX12_stop wsX12_stop ({ frames := 0, cells := 0, slots := 0, locals := 0 } : Room) (va_Pc [.ref om, .int (hz_i y1), .int (hz_i y2)] (hm_P D (mw_w om R C z A) (mw_t C) sz)) (va_Qv (S := Int × (Nat → Int) × (Nat → Nat → Int)) (fun u => Q u.2.1) (fun u t => hm_B D (va_A (mw_w om R C z A) sz) (mw_w om R C u.2.1 A) (mw_t C) t) (va_A (mw_w om R C z A) sz)) 0 0 (va_A (mw_w om R C z A) sz) := by
  refine Met.ofW (cc := cX12_stop) (maxL := 3) (ret := none) (by decide) rfl ?_
  intro p e s m args below meth c s₁ B hml hv
  obtain ⟨rfl, hsz, hP, hK, hD0, hE⟩ := hv
  have hx := B.exec
  have hb := B.bytes
  have hr := B.returns
  have hts := atoms_spec (ws := wsX12_stop) B.pre
  have hown : s.vm.findClass RX12 = some m.cls := findClass_of_methodNamed B.named
  have hlocks := B.notSynchronized
  have hin12 : ∀ w ∈ u_ws RX12 TX12 58, w ∈ wsX12_stop := fun w h => List.mem_cons_of_mem _ (List.mem_append_right _ (h))
  subst hsz
  have hD := hD0.self (sz := s.heap.size)
  generalize hAe : va_A (mw_w om R C z A) s.heap.size = Ad at hD ⊢
  have hA : ∀ q : Nat, s.heap.size ≤ q → Ad q := fun q h => by rw [← hAe]; exact Or.inr h
  have hS : va_S Ad s.heap s.heap [] := va_S.rf
  have hl := lv_entry ([.ref om, .int (hz_i y1), .int (hz_i y2)]) (n := 3) (Nat.le_of_ble_eq_true rfl)
  rw [lg_entry_eq]
  generalize (lg_sl ([.ref om, .int (hz_i y1), .int (hz_i y2)]) ++ List.replicate (3 - (lg_sl ([.ref om, .int (hz_i y1), .int (hz_i y2)])).length) Slot.unset).toArray = ls at hl ⊢
  have hl : lv_has ls 3 [(0, .ref om), (1, .int (hz_i y1)), (2, .int (hz_i y2))] := hl
  refine mw_Q (fun QQ hQQ => ?_)
  have hP0 := hP; have hD0 := hD; have hS0 := hS; have hl0 := hl; have hw0 := hw
  clear hP hD hS hl hw
  have L22 : ∀ (z : Nat → Int), wp_stop_22 z A  Q → ∀ (H : Heap) (locs : List Loc) (ls : Array Slot), va_P D vwCl (mw_w om R C z A) H → va_D Ad (mw_w om R C z A) → va_S Ad s.heap H locs → lv_has ls 3 [(0, .ref om)] → W p l e (headSpec wsX12_stop ({ frames := 0, cells := 0, slots := 0, locals := 0 } : Room)).room s m (List.toArray [.ref om, .int (hz_i y1), .int (hz_i y2)]) below meth c H locs 0 0 QQ (F0 m 22 ls []) := by
    intro z hw H locs ls hP hD hS hl
    subst hQQ
    subst hAe
    exact W.vret hx hb hr (fun t ht hW => ⟨⟨(0, z, A), rfl, hw, by rw [ht]; exact hP, va_K.moved hW.alike hK, hD⟩, hS.F ht⟩) hS.2.2 dX12_stop_22
  have hP := hP0; have hD := hD0; have hS := hS0; have hl := hl0; have hw := hw0
  obtain ⟨H, hH⟩ : ∃ H : Heap, H = s.heap := ⟨_, rfl⟩
  obtain ⟨locs, hlocs⟩ : ∃ L : List Loc, L = [] := ⟨_, rfl⟩
  rw [← hH] at hP
  have hS : va_S Ad s.heap H locs := by rw [hH, hlocs]; exact hS
  refine mw_HL hH hlocs ?_
  refine lv_aload_n hx hb dX12_stop_0 rfl (lv_at hl 0 rfl) ?_
  refine mw_get (v := .int (hz_i (z 35))) hx hb hts hin12 hown hK hP 35 (by decide) (hts (.fieldLink RX12 256 "HiddenMovesModel" "fault" "I") (List.mem_cons_of_mem _ (List.mem_append_left _ (List.mem_of_getElem? (i := 0) rfl)))) (fun _ h9 => h9) rfl dX12_stop_1 ?_
  obtain ⟨h9a, hw⟩ := hw
  refine hz_if_ne (tgt := 22) hx hb dX12_stop_4 (by decide) h9a (fun c_1 => ?_) (fun c_1 => ?_)
  · have hw := hw.1 c_1
    exact L22 z hw H locs ls hP hD hS (lv_sub hl [0] rfl)
  · have hw := hw.2 c_1
    refine lv_aload_n hx hb dX12_stop_7 rfl (lv_at hl 0 rfl) ?_
    refine lv_iload_n hx hb dX12_stop_8 rfl (lv_at hl 1 rfl) ?_
    refine mw_put (ty := .int) (v := .int (hz_i y1)) hx hb hts hin12 hown hK hP hD hS 35 (by decide) (hts (.fieldLink RX12 256 "HiddenMovesModel" "fault" "I") (List.mem_cons_of_mem _ (List.mem_append_left _ (List.mem_of_getElem? (i := 0) rfl)))) (fun _ h9 => h9) rfl (by decide +kernel) rfl rfl (mw_s35 R z y1) dX12_stop_9 (fun H locs hP hD hS => ?_)
    obtain ⟨z_2, hz_2⟩ : ∃ y : Nat → Int, y = lp_U z 35 y1 := ⟨_, rfl⟩
    rw [← hz_2] at hP hD
    have hw := hw z_2 hz_2
    refine lv_aload_n hx hb dX12_stop_12 rfl (lv_at hl 0 rfl) ?_
    refine lv_aload_n hx hb dX12_stop_13 rfl (lv_at hl 0 rfl) ?_
    refine mw_get (v := .ref (R 8)) hx hb hts hin12 hown hK hP 8 (by decide) (hts (.fieldLink RX12 105 "HiddenMovesModel" "places" "[I") (List.mem_cons_of_mem _ (List.mem_append_left _ (List.mem_of_getElem? (i := 1) rfl)))) (fun _ h9 => h9) rfl dX12_stop_14 ?_
    refine lv_iload_n hx hb dX12_stop_17 rfl (lv_at hl 2 rfl) ?_
    obtain ⟨h9i, hw⟩ := hw
    refine mw_ild (k := 8) (n := 4001) (i := y2) hx hb hK hP 6 5 rfl rfl h9i (by decide) dX12_stop_18 ?_
    refine mw_put (ty := .int) (v := .int (hz_i (A 8 (y2.toNat)))) hx hb hts hin12 hown hK hP hD hS 36 (by decide) (hts (.fieldLink RX12 259 "HiddenMovesModel" "faultPlace" "I") (List.mem_cons_of_mem _ (List.mem_append_left _ (List.mem_of_getElem? (i := 2) rfl)))) (fun _ h9 => h9) rfl (by decide +kernel) rfl rfl (mw_s36 R z_2 (A 8 (y2.toNat))) dX12_stop_19 (fun H locs hP hD hS => ?_)
    obtain ⟨z_3, hz_3⟩ : ∃ y : Nat → Int, y = lp_U z_2 36 (A 8 (y2.toNat)) := ⟨_, rfl⟩
    rw [← hz_3] at hP hD
    have hw := hw z_3 hz_3
    exact L22 z_3 hw H locs ls hP hD hS (lv_sub hl [0] rfl)

noncomputable def wp_divisor_17 (z : Nat → Int) (A : Nat → Nat → Int) (x4 : Int) (x6 : Int) (Q : Int → Prop) : Prop := ∀ P17 : Int → Int → Prop, (∀ (x4 : Int) (x6 : Int), hz_rL x6 ∧ ((x6 ≤ 0 → Q x4) ∧ (¬ (x6 ≤ 0) → ¬ x6 = 0 ∧ hz_rL x4 ∧ hz_rL x6 ∧ ∀ x8_2 : Int, x8_2 = x4.tmod x6 → P17 x6 x8_2)) → P17 x4 x6) → P17 x4 x6
noncomputable def wp_divisor_12 (z : Nat → Int) (A : Nat → Nat → Int) (y2 : Int) (t0 : Int) (Q : Int → Prop) : Prop := wp_divisor_17 z A t0 y2  Q
noncomputable def wp_divisor (z : Nat → Int) (A : Nat → Nat → Int) (y0 : Int) (y2 : Int) (Q : Int → Prop) : Prop := hz_rL y0 ∧ ((0 ≤ y0 → wp_divisor_12 z A y2 y0  Q) ∧ (¬ (0 ≤ y0) → wp_divisor_12 z A y2 (-y0)  Q))
set_option maxHeartbeats 4000000 in
set_option maxRecDepth 100000 in
theorem k_divisor (l : Launch) (D : va_G) (sz : Nat) (om : Nat) (R : Nat → Nat) (C : Nat → ClassId) (z : Nat → Int) (A : Nat → Nat → Int) (y0 : Int) (y2 : Int) (Q : Int → Prop) (hw : wp_divisor z A y0 y2 Q) : Met l yX12_divisor wsX12_divisor ({ frames := 0, cells := 0, slots := 0, locals := 0 } : Room) (va_Pc [.long (hz_l y0), .long (hz_l y2)] (hm_P D (mw_w om R C z A) (mw_t C) sz)) (va_Ql (S := Int × (Nat → Int) × (Nat → Nat → Int)) (fun r u => r = hz_l u.1 ∧ Q u.1) (fun u t => hm_B D (va_A (mw_w om R C z A) sz) (mw_w om R C z A) (mw_t C) t) (va_A (mw_w om R C z A) sz)) 0 0 (va_A (mw_w om R C z A) sz) := by
  refine Met.ofW (cc := cX12_divisor) (maxL := 10) (ret := (some .long)) (by decide) rfl ?_
  intro p e s m args below meth c s₁ B hml hv
  obtain ⟨rfl, hsz, hP, hK, hD0, hE⟩ := hv
  have hx := B.exec
  have hb := B.bytes
  have hr := B.returns
  have hts := atoms_spec (ws := wsX12_divisor) B.pre
  have hown : s.vm.findClass RX12 = some m.cls := findClass_of_methodNamed B.named
  have hlocks := B.notSynchronized
  subst hsz
  have hD := hD0.self (sz := s.heap.size)
  generalize hAe : va_A (mw_w om R C z A) s.heap.size = Ad at hD ⊢
  have hA : ∀ q : Nat, s.heap.size ≤ q → Ad q := fun q h => by rw [← hAe]; exact Or.inr h
  have hS : va_S Ad s.heap s.heap [] := va_S.rf
  have hl := lv_entry ([.long (hz_l y0), .long (hz_l y2)]) (n := 10) (Nat.le_of_ble_eq_true rfl)
  rw [lg_entry_eq]
  generalize (lg_sl ([.long (hz_l y0), .long (hz_l y2)]) ++ List.replicate (10 - (lg_sl ([.long (hz_l y0), .long (hz_l y2)])).length) Slot.unset).toArray = ls at hl ⊢
  have hl : lv_has ls 10 [(0, .long (hz_l y0)), (2, .long (hz_l y2))] := hl
  refine mw_Q (fun QQ hQQ => ?_)
  have hP0 := hP; have hD0 := hD; have hS0 := hS; have hl0 := hl; have hw0 := hw
  clear hP hD hS hl hw
  have L17 : ∀ (x4 : Int) (x6 : Int), wp_divisor_17 z A x4 x6  Q → ∀ (H : Heap) (locs : List Loc) (ls : Array Slot), va_P D vwCl (mw_w om R C z A) H → va_D Ad (mw_w om R C z A) → va_S Ad s.heap H locs → lv_has ls 10 [(4, .long (hz_l x4)), (6, .long (hz_l x6))] → W p l e (headSpec wsX12_divisor ({ frames := 0, cells := 0, slots := 0, locals := 0 } : Room)).room s m (List.toArray [.long (hz_l y0), .long (hz_l y2)]) below meth c H locs 0 0 QQ (F0 m 17 ls []) := by
    intro x4 x6 hw
    obtain ⟨P17, hP17⟩ : ∃ P : Int → Int → Prop, ∀ (x4 : Int) (x6 : Int), P x4 x6 ↔ (∀ (H : Heap) (locs : List Loc) (ls : Array Slot), va_P D vwCl (mw_w om R C z A) H → va_D Ad (mw_w om R C z A) → va_S Ad s.heap H locs → lv_has ls 10 [(4, .long (hz_l x4)), (6, .long (hz_l x6))] → W p l e (headSpec wsX12_divisor ({ frames := 0, cells := 0, slots := 0, locals := 0 } : Room)).room s m (List.toArray [.long (hz_l y0), .long (hz_l y2)]) below meth c H locs 0 0 QQ (F0 m 17 ls [])) := ⟨fun (x4 : Int) (x6 : Int) => ∀ (H : Heap) (locs : List Loc) (ls : Array Slot), va_P D vwCl (mw_w om R C z A) H → va_D Ad (mw_w om R C z A) → va_S Ad s.heap H locs → lv_has ls 10 [(4, .long (hz_l x4)), (6, .long (hz_l x6))] → W p l e (headSpec wsX12_divisor ({ frames := 0, cells := 0, slots := 0, locals := 0 } : Room)).room s m (List.toArray [.long (hz_l y0), .long (hz_l y2)]) below meth c H locs 0 0 QQ (F0 m 17 ls []), fun _ _ => Iff.rfl⟩
    refine (hP17 x4 x6).mp (hw P17 ?_)
    intro x4 x6 hw
    refine (hP17 x4 x6).mpr ?_
    intro H locs ls hP hD hS hl
    refine lv_lload hx hb dX12_divisor_17 (lv_at hl 1 rfl) ?_
    refine lv_lconst (v := hz_l 0) hx hb dX12_divisor_19 (by decide +kernel) ?_
    obtain ⟨h9a, hw⟩ := hw
    refine hz_lcmp_le (tgt := 42) hx hb dX12_divisor_20 dX12_divisor_21 (by decide) h9a ⟨by decide, by decide⟩ (fun c_1 => ?_) (fun c_1 => ?_)
    · have hw := hw.1 c_1
      refine lv_lload hx hb dX12_divisor_42 (lv_at hl 0 rfl) ?_
      subst hQQ
      subst hAe
      exact W.lret (v := hz_l x4) hx hb hr (fun t ht hW => ⟨⟨hz_l x4, (x4, z, A), rfl, ⟨rfl, hw⟩, by rw [ht]; exact hP, va_K.moved hW.alike hK, hD⟩, hS.F ht⟩) hS.2.2 dX12_divisor_44
    · have hw := hw.2 c_1
      refine lv_lload hx hb dX12_divisor_24 (lv_at hl 0 rfl) ?_
      refine lv_lload hx hb dX12_divisor_26 (lv_at hl 1 rfl) ?_
      obtain ⟨h9n, h9a, h9b, hw⟩ := hw
      refine hz_lrem hx hb dX12_divisor_28 h9n h9a h9b ?_
      refine hz_topl (fun x8_2 hx8_2 => ?_)
      have hw := hw x8_2 hx8_2
      refine lv_lstore (lv' := [(8, .long (hz_l x8_2)), (4, .long (hz_l x4)), (6, .long (hz_l x6))]) hx hb dX12_divisor_29 hl (by decide) rfl (fun ls hl => ?_)
      refine lv_lload hx hb dX12_divisor_31 (lv_at hl 2 rfl) ?_
      refine lv_lstore (lv' := [(4, .long (hz_l x6)), (8, .long (hz_l x8_2)), (6, .long (hz_l x6))]) hx hb dX12_divisor_33 hl (by decide) rfl (fun ls hl => ?_)
      refine lv_lload hx hb dX12_divisor_35 (lv_at hl 1 rfl) ?_
      refine lv_lstore (lv' := [(6, .long (hz_l x8_2)), (4, .long (hz_l x6)), (8, .long (hz_l x8_2))]) hx hb dX12_divisor_37 hl (by decide) rfl (fun ls hl => ?_)
      refine lv_goto (tgt := 17) hx hb dX12_divisor_39 (by decide) ?_
      exact (hP17 x6 x8_2).mp hw H locs ls hP hD hS (lv_sub hl [1, 0] rfl)
  have L12 : ∀ (t0 : Int), wp_divisor_12 z A y2 t0  Q → ∀ (H : Heap) (locs : List Loc) (ls : Array Slot), va_P D vwCl (mw_w om R C z A) H → va_D Ad (mw_w om R C z A) → va_S Ad s.heap H locs → lv_has ls 10 [(2, .long (hz_l y2))] → W p l e (headSpec wsX12_divisor ({ frames := 0, cells := 0, slots := 0, locals := 0 } : Room)).room s m (List.toArray [.long (hz_l y0), .long (hz_l y2)]) below meth c H locs 0 0 QQ (F0 m 12 ls [.long (hz_l t0)]) := by
    intro t0 hw H locs ls hP hD hS hl
    refine lv_lstore (lv' := [(4, .long (hz_l t0)), (2, .long (hz_l y2))]) hx hb dX12_divisor_12 hl (by decide) rfl (fun ls hl => ?_)
    refine lv_lload_n hx hb dX12_divisor_14 rfl (lv_at hl 1 rfl) ?_
    refine lv_lstore (lv' := [(6, .long (hz_l y2)), (4, .long (hz_l t0)), (2, .long (hz_l y2))]) hx hb dX12_divisor_15 hl (by decide) rfl (fun ls hl => ?_)
    exact L17 t0 y2 hw H locs ls hP hD hS (lv_sub hl [1, 0] rfl)
  have hP := hP0; have hD := hD0; have hS := hS0; have hl := hl0; have hw := hw0
  obtain ⟨H, hH⟩ : ∃ H : Heap, H = s.heap := ⟨_, rfl⟩
  obtain ⟨locs, hlocs⟩ : ∃ L : List Loc, L = [] := ⟨_, rfl⟩
  rw [← hH] at hP
  have hS : va_S Ad s.heap H locs := by rw [hH, hlocs]; exact hS
  refine mw_HL hH hlocs ?_
  refine lv_lload_n hx hb dX12_divisor_0 rfl (lv_at hl 0 rfl) ?_
  refine lv_lconst (v := hz_l 0) hx hb dX12_divisor_1 (by decide +kernel) ?_
  obtain ⟨h9a, hw⟩ := hw
  refine hz_lcmp_ge (tgt := 11) hx hb dX12_divisor_2 dX12_divisor_3 (by decide) h9a ⟨by decide, by decide⟩ (fun c_3 => ?_) (fun c_3 => ?_)
  · have hw := hw.1 c_3
    refine lv_lload_n hx hb dX12_divisor_11 rfl (lv_at hl 0 rfl) ?_
    exact L12 y0 hw H locs ls hP hD hS (lv_sub hl [1] rfl)
  · have hw := hw.2 c_3
    refine lv_lload_n hx hb dX12_divisor_6 rfl (lv_at hl 0 rfl) ?_
    refine hz_lneg hx hb dX12_divisor_7 ?_
    refine lv_goto (tgt := 12) hx hb dX12_divisor_8 (by decide) ?_
    exact L12 (-y0) hw H locs ls hP hD hS (lv_sub hl [1] rfl)

noncomputable def wp_fraction_173 (z : Nat → Int) (A : Nat → Nat → Int) (Q : (Nat → Int) → Prop) : Prop := Q z
noncomputable def wp_fraction_167 (z : Nat → Int) (A : Nat → Nat → Int) (x2 : Int) (Q : (Nat → Int) → Prop) : Prop := wp_stop z A 3 x2 (fun z_2 => wp_fraction_173 z_2 A  Q)
noncomputable def wp_fraction_133 (z : Nat → Int) (A : Nat → Nat → Int) (y1 : Int) (x2 : Int) (Q : (Nat → Int) → Prop) : Prop := hz_rL (z 48) ∧ ((z 48 = 0 → wp_fraction_167 z A x2  Q) ∧ (¬ (z 48 = 0) → hz_rI y1 ∧ ((y1 = 0 → wp_fraction_173 z A  Q) ∧ (¬ (y1 = 0) → hz_rL (z 47) ∧ ((z 47 ≤ 0 → wp_fraction_167 z A x2  Q) ∧ (¬ (z 47 ≤ 0) → hz_rL (z 47) ∧ hz_rL (z 48) ∧ ((z 47 ≤ z 48 → wp_fraction_173 z A  Q) ∧ (¬ (z 47 ≤ z 48) → wp_fraction_167 z A x2  Q))))))))
noncomputable def wp_fraction_75 (z : Nat → Int) (A : Nat → Nat → Int) (y1 : Int) (x2 : Int) (t0 : Int) (Q : (Nat → Int) → Prop) : Prop := ∀ z_7 : Nat → Int, z_7 = lp_U z 47 t0 → ∀ z_8 : Nat → Int, z_8 = lp_U z_7 48 1 → ∀ z_9 : Nat → Int, z_9 = lp_U z_8 46 ((z_8 46) + 1) → (0 ≤ z_9 46 ∧ z_9 46 < 4001) ∧ hz_rI (A 7 ((z_9 46).toNat)) ∧ ((¬ A 7 ((z_9 46).toNat) = 47 → wp_fraction_133 z_9 A y1 x2  Q) ∧ (A 7 ((z_9 46).toNat) = 47 → (0 ≤ (z_9 46) + 1 ∧ (z_9 46) + 1 < 4001) ∧ hz_rI (A 9 (((z_9 46) + 1).toNat)) ∧ ∀ z_11 : Nat → Int, z_11 = lp_U z_9 48 (A 9 (((z_9 46) + 1).toNat)) → ∀ z_12 : Nat → Int, z_12 = lp_U z_11 46 ((z_11 46) + 2) → wp_fraction_133 z_12 A y1 x2  Q))
noncomputable def wp_fraction_43 (z : Nat → Int) (A : Nat → Nat → Int) (y1 : Int) (x2 : Int) (x3 : Int) (t0 : Int) (Q : (Nat → Int) → Prop) : Prop := ∀ z_13 : Nat → Int, z_13 = lp_U z 46 t0 → hz_rI x3 ∧ ((x3 = 0 → (0 ≤ z_13 46 ∧ z_13 46 < 4001) ∧ hz_rI (A 9 ((z_13 46).toNat)) ∧ wp_fraction_75 z_13 A y1 x2 (A 9 ((z_13 46).toNat))  Q) ∧ (¬ (x3 = 0) → (0 ≤ z_13 46 ∧ z_13 46 < 4001) ∧ hz_rI (-(A 9 ((z_13 46).toNat))) ∧ wp_fraction_75 z_13 A y1 x2 (-(A 9 ((z_13 46).toNat)))  Q))
noncomputable def wp_fraction_24 (z : Nat → Int) (A : Nat → Nat → Int) (y1 : Int) (x2 : Int) (t0 : Int) (Q : (Nat → Int) → Prop) : Prop := hz_rI t0 ∧ ((t0 = 0 → wp_fraction_43 z A y1 x2 t0 (z 46)  Q) ∧ (¬ (t0 = 0) → wp_fraction_43 z A y1 x2 t0 ((z 46) + 1)  Q))
noncomputable def wp_fraction (z : Nat → Int) (A : Nat → Nat → Int) (y1 : Int) (Q : (Nat → Int) → Prop) : Prop := ∀ x2_16 : Int, x2_16 = z 46 → (0 ≤ z 46 ∧ z 46 < 4001) ∧ hz_rI (A 7 ((z 46).toNat)) ∧ ((¬ A 7 ((z 46).toNat) = 45 → wp_fraction_24 z A y1 x2_16 0  Q) ∧ (A 7 ((z 46).toNat) = 45 → wp_fraction_24 z A y1 x2_16 1  Q))
set_option maxHeartbeats 4000000 in
set_option maxRecDepth 100000 in
theorem k_fraction (l : Launch) (D : va_G) (sz : Nat) (om : Nat) (R : Nat → Nat) (C : Nat → ClassId) (z : Nat → Int) (A : Nat → Nat → Int) (y1 : Int) (Q : (Nat → Int) → Prop) (hw : wp_fraction z A y1 Q) : Met l yX12_fraction wsX12_fraction ({ frames := 1, cells := 0, slots := 0, locals := 22 } : Room) (va_Pc [.ref om, .int (hz_i y1)] (hm_P D (mw_w om R C z A) (mw_t C) sz)) (va_Qv (S := Int × (Nat → Int) × (Nat → Nat → Int)) (fun u => Q u.2.1) (fun u t => hm_B D (va_A (mw_w om R C z A) sz) (mw_w om R C u.2.1 A) (mw_t C) t) (va_A (mw_w om R C z A) sz)) 0 0 (va_A (mw_w om R C z A) sz) := by
  refine Met.ofW (cc := cX12_fraction) (maxL := 4) (ret := none) (by decide) rfl ?_
  intro p e s m args below meth c s₁ B hml hv
  obtain ⟨rfl, hsz, hP, hK, hD0, hE⟩ := hv
  have hx := B.exec
  have hb := B.bytes
  have hr := B.returns
  have hts := atoms_spec (ws := wsX12_fraction) B.pre
  have hown : s.vm.findClass RX12 = some m.cls := findClass_of_methodNamed B.named
  have hlocks := B.notSynchronized
  have hin12 : ∀ w ∈ u_ws RX12 TX12 58, w ∈ wsX12_fraction := fun w h => List.mem_cons_of_mem _ (List.mem_append_right _ (h))
  subst hsz
  have hD := hD0.self (sz := s.heap.size)
  generalize hAe : va_A (mw_w om R C z A) s.heap.size = Ad at hD ⊢
  have hA : ∀ q : Nat, s.heap.size ≤ q → Ad q := fun q h => by rw [← hAe]; exact Or.inr h
  have hS : va_S Ad s.heap s.heap [] := va_S.rf
  have hl := lv_entry ([.ref om, .int (hz_i y1)]) (n := 4) (Nat.le_of_ble_eq_true rfl)
  rw [lg_entry_eq]
  generalize (lg_sl ([.ref om, .int (hz_i y1)]) ++ List.replicate (4 - (lg_sl ([.ref om, .int (hz_i y1)])).length) Slot.unset).toArray = ls at hl ⊢
  have hl : lv_has ls 4 [(0, .ref om), (1, .int (hz_i y1))] := hl
  refine mw_Q (fun QQ hQQ => ?_)
  have hP0 := hP; have hD0 := hD; have hS0 := hS; have hl0 := hl; have hw0 := hw
  clear hP hD hS hl hw
  have L173 : ∀ (z : Nat → Int), wp_fraction_173 z A  Q → ∀ (H : Heap) (locs : List Loc) (ls : Array Slot), va_P D vwCl (mw_w om R C z A) H → va_D Ad (mw_w om R C z A) → va_S Ad s.heap H locs → lv_has ls 4 [(0, .ref om)] → W p l e (headSpec wsX12_fraction ({ frames := 1, cells := 0, slots := 0, locals := 22 } : Room)).room s m (List.toArray [.ref om, .int (hz_i y1)]) below meth c H locs 0 0 QQ (F0 m 173 ls []) := by
    intro z hw H locs ls hP hD hS hl
    subst hQQ
    subst hAe
    exact W.vret hx hb hr (fun t ht hW => ⟨⟨(0, z, A), rfl, hw, by rw [ht]; exact hP, va_K.moved hW.alike hK, hD⟩, hS.F ht⟩) hS.2.2 dX12_fraction_173
  have L167 : ∀ (z : Nat → Int) (x2 : Int), wp_fraction_167 z A x2  Q → ∀ (H : Heap) (locs : List Loc) (ls : Array Slot), va_P D vwCl (mw_w om R C z A) H → va_D Ad (mw_w om R C z A) → va_S Ad s.heap H locs → lv_has ls 4 [(0, .ref om), (2, .int (hz_i x2))] → W p l e (headSpec wsX12_fraction ({ frames := 1, cells := 0, slots := 0, locals := 22 } : Room)).room s m (List.toArray [.ref om, .int (hz_i y1)]) below meth c H locs 0 0 QQ (F0 m 167 ls []) := by
    intro z x2 hw H locs ls hP hD hS hl
    refine lv_aload_n hx hb dX12_fraction_167 rfl (lv_at hl 0 rfl) ?_
    refine lv_iconst (v := hz_i 3) hx hb dX12_fraction_168 (by decide +kernel) ?_
    refine lv_iload_n hx hb dX12_fraction_169 rfl (lv_at hl 1 rfl) ?_
    have hFc := mw_free hD hS hA
    refine va_callv (va_runV (As := [.int (hz_i 3), .int (hz_i x2)]) (rest := []) ⟨hx, hb, hml, hown, hts⟩ (k_stop l D _ om R C z A 3 x2 _ hw) (cwV 2 hts gX12_fraction_X12_stop rfl rfl rfl (by decide +kernel) ⟨Nat.le_of_ble_eq_true rfl, Nat.le_of_ble_eq_true rfl⟩) ⟨hm_blind, va_recv hK hP (ci := 12) (q0 := 0) rfl rfl, hm_pre hP hK hD hE⟩ rfl rfl hl.1 rfl (lv_room (Nat.le_of_ble_eq_true rfl)) dX12_fraction_170 ⟨Nat.le_of_ble_eq_true rfl, Nat.le_of_ble_eq_true rfl⟩) hS (fun q _ h => hFc q h) hFc (fun u t H1 locs ht hvm hw hB hz1 hk1 hS => ?_)
    obtain ⟨r_1, z_2, _⟩ := u
    obtain ⟨hP, hK1, hD1⟩ := hB
    rw [ht] at hP
    have hD := hD1.weaken (fun k q _ h => hFc q.1 h)
    have hP : va_P D vwCl (mw_w om R C z_2 A) H1 := hP
    have hD : va_D Ad (mw_w om R C z_2 A) := hD
    generalize H1 = H at hP hS ⊢
    refine W.eq (g2 := F0 m 173 ls []) rfl ?_
    exact L173 z_2 hw H locs ls hP hD hS (lv_sub hl [0] rfl)
  have L133 : ∀ (z : Nat → Int) (x2 : Int), wp_fraction_133 z A y1 x2  Q → ∀ (H : Heap) (locs : List Loc) (ls : Array Slot), va_P D vwCl (mw_w om R C z A) H → va_D Ad (mw_w om R C z A) → va_S Ad s.heap H locs → lv_has ls 4 [(0, .ref om), (1, .int (hz_i y1)), (2, .int (hz_i x2))] → W p l e (headSpec wsX12_fraction ({ frames := 1, cells := 0, slots := 0, locals := 22 } : Room)).room s m (List.toArray [.ref om, .int (hz_i y1)]) below meth c H locs 0 0 QQ (F0 m 133 ls []) := by
    intro z x2 hw H locs ls hP hD hS hl
    refine lv_aload_n hx hb dX12_fraction_133 rfl (lv_at hl 0 rfl) ?_
    refine mw_get (v := .long (hz_l (z 48))) hx hb hts hin12 hown hK hP 48 (by decide) (hts (.fieldLink RX12 269 "HiddenMovesModel" "readBottom" "J") (List.mem_cons_of_mem _ (List.mem_append_left _ (List.mem_of_getElem? (i := 4) rfl)))) (fun _ h9 => h9) rfl dX12_fraction_134 ?_
    refine lv_lconst (v := hz_l 0) hx hb dX12_fraction_137 (by decide +kernel) ?_
    obtain ⟨h9a, hw⟩ := hw
    refine hz_lcmp_eq (tgt := 167) hx hb dX12_fraction_138 dX12_fraction_139 (by decide) h9a ⟨by decide, by decide⟩ (fun c_3 => ?_) (fun c_3 => ?_)
    · have hw := hw.1 c_3
      exact L167 z x2 hw H locs ls hP hD hS (lv_sub hl [0, 2] rfl)
    · have hw := hw.2 c_3
      refine lv_iload_n hx hb dX12_fraction_142 rfl (lv_at hl 1 rfl) ?_
      obtain ⟨h9a, hw⟩ := hw
      refine hz_if_eq (tgt := 173) hx hb dX12_fraction_143 (by decide) h9a (fun c_4 => ?_) (fun c_4 => ?_)
      · have hw := hw.1 c_4
        exact L173 z hw H locs ls hP hD hS (lv_sub hl [0] rfl)
      · have hw := hw.2 c_4
        refine lv_aload_n hx hb dX12_fraction_146 rfl (lv_at hl 0 rfl) ?_
        refine mw_get (v := .long (hz_l (z 47))) hx hb hts hin12 hown hK hP 47 (by decide) (hts (.fieldLink RX12 265 "HiddenMovesModel" "readTop" "J") (List.mem_cons_of_mem _ (List.mem_append_left _ (List.mem_of_getElem? (i := 3) rfl)))) (fun _ h9 => h9) rfl dX12_fraction_147 ?_
        refine lv_lconst (v := hz_l 0) hx hb dX12_fraction_150 (by decide +kernel) ?_
        obtain ⟨h9a, hw⟩ := hw
        refine hz_lcmp_le (tgt := 167) hx hb dX12_fraction_151 dX12_fraction_152 (by decide) h9a ⟨by decide, by decide⟩ (fun c_5 => ?_) (fun c_5 => ?_)
        · have hw := hw.1 c_5
          exact L167 z x2 hw H locs ls hP hD hS (lv_sub hl [0, 2] rfl)
        · have hw := hw.2 c_5
          refine lv_aload_n hx hb dX12_fraction_155 rfl (lv_at hl 0 rfl) ?_
          refine mw_get (v := .long (hz_l (z 47))) hx hb hts hin12 hown hK hP 47 (by decide) (hts (.fieldLink RX12 265 "HiddenMovesModel" "readTop" "J") (List.mem_cons_of_mem _ (List.mem_append_left _ (List.mem_of_getElem? (i := 3) rfl)))) (fun _ h9 => h9) rfl dX12_fraction_156 ?_
          refine lv_aload_n hx hb dX12_fraction_159 rfl (lv_at hl 0 rfl) ?_
          refine mw_get (v := .long (hz_l (z 48))) hx hb hts hin12 hown hK hP 48 (by decide) (hts (.fieldLink RX12 269 "HiddenMovesModel" "readBottom" "J") (List.mem_cons_of_mem _ (List.mem_append_left _ (List.mem_of_getElem? (i := 4) rfl)))) (fun _ h9 => h9) rfl dX12_fraction_160 ?_
          obtain ⟨h9a, hw⟩ := hw
          obtain ⟨h9b, hw⟩ := hw
          refine hz_lcmp_le (tgt := 173) hx hb dX12_fraction_163 dX12_fraction_164 (by decide) h9a h9b (fun c_6 => ?_) (fun c_6 => ?_)
          · have hw := hw.1 c_6
            exact L173 z hw H locs ls hP hD hS (lv_sub hl [0] rfl)
          · have hw := hw.2 c_6
            exact L167 z x2 hw H locs ls hP hD hS (lv_sub hl [0, 2] rfl)
  have L75 : ∀ (z : Nat → Int) (x2 : Int) (t0 : Int), wp_fraction_75 z A y1 x2 t0  Q → ∀ (H : Heap) (locs : List Loc) (ls : Array Slot), va_P D vwCl (mw_w om R C z A) H → va_D Ad (mw_w om R C z A) → va_S Ad s.heap H locs → lv_has ls 4 [(0, .ref om), (1, .int (hz_i y1)), (2, .int (hz_i x2))] → W p l e (headSpec wsX12_fraction ({ frames := 1, cells := 0, slots := 0, locals := 22 } : Room)).room s m (List.toArray [.ref om, .int (hz_i y1)]) below meth c H locs 0 0 QQ (F0 m 75 ls [.long (hz_l t0), .ref om]) := by
    intro z x2 t0 hw H locs ls hP hD hS hl
    refine mw_put (ty := .long) (v := .long (hz_l t0)) hx hb hts hin12 hown hK hP hD hS 47 (by decide) (hts (.fieldLink RX12 265 "HiddenMovesModel" "readTop" "J") (List.mem_cons_of_mem _ (List.mem_append_left _ (List.mem_of_getElem? (i := 3) rfl)))) (fun _ h9 => h9) rfl (by decide +kernel) rfl rfl (mw_s47 R z t0) dX12_fraction_75 (fun H locs hP hD hS => ?_)
    obtain ⟨z_7, hz_7⟩ : ∃ y : Nat → Int, y = lp_U z 47 t0 := ⟨_, rfl⟩
    rw [← hz_7] at hP hD
    have hw := hw z_7 hz_7
    refine lv_aload_n hx hb dX12_fraction_78 rfl (lv_at hl 0 rfl) ?_
    refine lv_lconst (v := hz_l 1) hx hb dX12_fraction_79 (by decide +kernel) ?_
    refine mw_put (ty := .long) (v := .long (hz_l 1)) hx hb hts hin12 hown hK hP hD hS 48 (by decide) (hts (.fieldLink RX12 269 "HiddenMovesModel" "readBottom" "J") (List.mem_cons_of_mem _ (List.mem_append_left _ (List.mem_of_getElem? (i := 4) rfl)))) (fun _ h9 => h9) rfl (by decide +kernel) rfl rfl (mw_s48 R z_7 1) dX12_fraction_80 (fun H locs hP hD hS => ?_)
    obtain ⟨z_8, hz_8⟩ : ∃ y : Nat → Int, y = lp_U z_7 48 1 := ⟨_, rfl⟩
    rw [← hz_8] at hP hD
    have hw := hw z_8 hz_8
    refine lv_aload_n hx hb dX12_fraction_83 rfl (lv_at hl 0 rfl) ?_
    refine lv_dup hx hb dX12_fraction_84 rfl ?_
    refine mw_get (v := .int (hz_i (z_8 46))) hx hb hts hin12 hown hK hP 46 (by decide) (hts (.fieldLink RX12 262 "HiddenMovesModel" "at" "I") (List.mem_cons_of_mem _ (List.mem_append_left _ (List.mem_of_getElem? (i := 0) rfl)))) (fun _ h9 => h9) rfl dX12_fraction_85 ?_
    refine lv_iconst (v := hz_i 1) hx hb dX12_fraction_88 (by decide +kernel) ?_
    refine hz_iadd hx hb dX12_fraction_89 ?_
    refine mw_put (ty := .int) (v := .int (hz_i ((z_8 46) + 1))) hx hb hts hin12 hown hK hP hD hS 46 (by decide) (hts (.fieldLink RX12 262 "HiddenMovesModel" "at" "I") (List.mem_cons_of_mem _ (List.mem_append_left _ (List.mem_of_getElem? (i := 0) rfl)))) (fun _ h9 => h9) rfl (by decide +kernel) rfl rfl (mw_s46 R z_8 ((z_8 46) + 1)) dX12_fraction_90 (fun H locs hP hD hS => ?_)
    obtain ⟨z_9, hz_9⟩ : ∃ y : Nat → Int, y = lp_U z_8 46 ((z_8 46) + 1) := ⟨_, rfl⟩
    rw [← hz_9] at hP hD
    have hw := hw z_9 hz_9
    refine lv_aload_n hx hb dX12_fraction_93 rfl (lv_at hl 0 rfl) ?_
    refine mw_get (v := .ref (R 7)) hx hb hts hin12 hown hK hP 7 (by decide) (hts (.fieldLink RX12 102 "HiddenMovesModel" "kinds" "[I") (List.mem_cons_of_mem _ (List.mem_append_left _ (List.mem_of_getElem? (i := 1) rfl)))) (fun _ h9 => h9) rfl dX12_fraction_94 ?_
    refine lv_aload_n hx hb dX12_fraction_97 rfl (lv_at hl 0 rfl) ?_
    refine mw_get (v := .int (hz_i (z_9 46))) hx hb hts hin12 hown hK hP 46 (by decide) (hts (.fieldLink RX12 262 "HiddenMovesModel" "at" "I") (List.mem_cons_of_mem _ (List.mem_append_left _ (List.mem_of_getElem? (i := 0) rfl)))) (fun _ h9 => h9) rfl dX12_fraction_98 ?_
    obtain ⟨h9i, hw⟩ := hw
    refine mw_ild (k := 7) (n := 4001) (i := z_9 46) hx hb hK hP 5 4 rfl rfl h9i (by decide) dX12_fraction_101 ?_
    refine lv_bipush (v := hz_i 47) hx hb dX12_fraction_102 (by decide +kernel) ?_
    obtain ⟨h9a, hw⟩ := hw
    refine hz_icmp_ne (tgt := 133) hx hb dX12_fraction_104 (by decide) h9a ⟨by decide, by decide⟩ (fun c_10 => ?_) (fun c_10 => ?_)
    · have hw := hw.1 c_10
      exact L133 z_9 x2 hw H locs ls hP hD hS (lv_sub hl [0, 1, 2] rfl)
    · have hw := hw.2 c_10
      refine lv_aload_n hx hb dX12_fraction_107 rfl (lv_at hl 0 rfl) ?_
      refine lv_aload_n hx hb dX12_fraction_108 rfl (lv_at hl 0 rfl) ?_
      refine mw_get (v := .ref (R 9)) hx hb hts hin12 hown hK hP 9 (by decide) (hts (.fieldLink RX12 108 "HiddenMovesModel" "numbers" "[I") (List.mem_cons_of_mem _ (List.mem_append_left _ (List.mem_of_getElem? (i := 2) rfl)))) (fun _ h9 => h9) rfl dX12_fraction_109 ?_
      refine lv_aload_n hx hb dX12_fraction_112 rfl (lv_at hl 0 rfl) ?_
      refine mw_get (v := .int (hz_i (z_9 46))) hx hb hts hin12 hown hK hP 46 (by decide) (hts (.fieldLink RX12 262 "HiddenMovesModel" "at" "I") (List.mem_cons_of_mem _ (List.mem_append_left _ (List.mem_of_getElem? (i := 0) rfl)))) (fun _ h9 => h9) rfl dX12_fraction_113 ?_
      refine lv_iconst (v := hz_i 1) hx hb dX12_fraction_116 (by decide +kernel) ?_
      refine hz_iadd hx hb dX12_fraction_117 ?_
      obtain ⟨h9i, hw⟩ := hw
      refine mw_ild (k := 9) (n := 4001) (i := (z_9 46) + 1) hx hb hK hP 7 6 rfl rfl h9i (by decide) dX12_fraction_118 ?_
      obtain ⟨h9a, hw⟩ := hw
      refine hz_wi2l hx hb dX12_fraction_119 h9a ?_
      refine mw_put (ty := .long) (v := .long (hz_l (A 9 (((z_9 46) + 1).toNat)))) hx hb hts hin12 hown hK hP hD hS 48 (by decide) (hts (.fieldLink RX12 269 "HiddenMovesModel" "readBottom" "J") (List.mem_cons_of_mem _ (List.mem_append_left _ (List.mem_of_getElem? (i := 4) rfl)))) (fun _ h9 => h9) rfl (by decide +kernel) rfl rfl (mw_s48 R z_9 (A 9 (((z_9 46) + 1).toNat))) dX12_fraction_120 (fun H locs hP hD hS => ?_)
      obtain ⟨z_11, hz_11⟩ : ∃ y : Nat → Int, y = lp_U z_9 48 (A 9 (((z_9 46) + 1).toNat)) := ⟨_, rfl⟩
      rw [← hz_11] at hP hD
      have hw := hw z_11 hz_11
      refine lv_aload_n hx hb dX12_fraction_123 rfl (lv_at hl 0 rfl) ?_
      refine lv_aload_n hx hb dX12_fraction_124 rfl (lv_at hl 0 rfl) ?_
      refine mw_get (v := .int (hz_i (z_11 46))) hx hb hts hin12 hown hK hP 46 (by decide) (hts (.fieldLink RX12 262 "HiddenMovesModel" "at" "I") (List.mem_cons_of_mem _ (List.mem_append_left _ (List.mem_of_getElem? (i := 0) rfl)))) (fun _ h9 => h9) rfl dX12_fraction_125 ?_
      refine lv_iconst (v := hz_i 2) hx hb dX12_fraction_128 (by decide +kernel) ?_
      refine hz_iadd hx hb dX12_fraction_129 ?_
      refine mw_put (ty := .int) (v := .int (hz_i ((z_11 46) + 2))) hx hb hts hin12 hown hK hP hD hS 46 (by decide) (hts (.fieldLink RX12 262 "HiddenMovesModel" "at" "I") (List.mem_cons_of_mem _ (List.mem_append_left _ (List.mem_of_getElem? (i := 0) rfl)))) (fun _ h9 => h9) rfl (by decide +kernel) rfl rfl (mw_s46 R z_11 ((z_11 46) + 2)) dX12_fraction_130 (fun H locs hP hD hS => ?_)
      obtain ⟨z_12, hz_12⟩ : ∃ y : Nat → Int, y = lp_U z_11 46 ((z_11 46) + 2) := ⟨_, rfl⟩
      rw [← hz_12] at hP hD
      have hw := hw z_12 hz_12
      exact L133 z_12 x2 hw H locs ls hP hD hS (lv_sub hl [0, 1, 2] rfl)
  have L43 : ∀ (z : Nat → Int) (x2 : Int) (x3 : Int) (t0 : Int), wp_fraction_43 z A y1 x2 x3 t0  Q → ∀ (H : Heap) (locs : List Loc) (ls : Array Slot), va_P D vwCl (mw_w om R C z A) H → va_D Ad (mw_w om R C z A) → va_S Ad s.heap H locs → lv_has ls 4 [(0, .ref om), (1, .int (hz_i y1)), (2, .int (hz_i x2)), (3, .int (hz_i x3))] → W p l e (headSpec wsX12_fraction ({ frames := 1, cells := 0, slots := 0, locals := 22 } : Room)).room s m (List.toArray [.ref om, .int (hz_i y1)]) below meth c H locs 0 0 QQ (F0 m 43 ls [.int (hz_i t0), .ref om]) := by
    intro z x2 x3 t0 hw H locs ls hP hD hS hl
    refine mw_put (ty := .int) (v := .int (hz_i t0)) hx hb hts hin12 hown hK hP hD hS 46 (by decide) (hts (.fieldLink RX12 262 "HiddenMovesModel" "at" "I") (List.mem_cons_of_mem _ (List.mem_append_left _ (List.mem_of_getElem? (i := 0) rfl)))) (fun _ h9 => h9) rfl (by decide +kernel) rfl rfl (mw_s46 R z t0) dX12_fraction_43 (fun H locs hP hD hS => ?_)
    obtain ⟨z_13, hz_13⟩ : ∃ y : Nat → Int, y = lp_U z 46 t0 := ⟨_, rfl⟩
    rw [← hz_13] at hP hD
    have hw := hw z_13 hz_13
    refine lv_aload_n hx hb dX12_fraction_46 rfl (lv_at hl 0 rfl) ?_
    refine lv_iload_n hx hb dX12_fraction_47 rfl (lv_at hl 3 rfl) ?_
    obtain ⟨h9a, hw⟩ := hw
    refine hz_if_eq (tgt := 65) hx hb dX12_fraction_48 (by decide) h9a (fun c_14 => ?_) (fun c_14 => ?_)
    · have hw := hw.1 c_14
      refine lv_aload_n hx hb dX12_fraction_65 rfl (lv_at hl 0 rfl) ?_
      refine mw_get (v := .ref (R 9)) hx hb hts hin12 hown hK hP 9 (by decide) (hts (.fieldLink RX12 108 "HiddenMovesModel" "numbers" "[I") (List.mem_cons_of_mem _ (List.mem_append_left _ (List.mem_of_getElem? (i := 2) rfl)))) (fun _ h9 => h9) rfl dX12_fraction_66 ?_
      refine lv_aload_n hx hb dX12_fraction_69 rfl (lv_at hl 0 rfl) ?_
      refine mw_get (v := .int (hz_i (z_13 46))) hx hb hts hin12 hown hK hP 46 (by decide) (hts (.fieldLink RX12 262 "HiddenMovesModel" "at" "I") (List.mem_cons_of_mem _ (List.mem_append_left _ (List.mem_of_getElem? (i := 0) rfl)))) (fun _ h9 => h9) rfl dX12_fraction_70 ?_
      obtain ⟨h9i, hw⟩ := hw
      refine mw_ild (k := 9) (n := 4001) (i := z_13 46) hx hb hK hP 7 6 rfl rfl h9i (by decide) dX12_fraction_73 ?_
      obtain ⟨h9a, hw⟩ := hw
      refine hz_wi2l hx hb dX12_fraction_74 h9a ?_
      exact L75 z_13 x2 (A 9 ((z_13 46).toNat)) hw H locs ls hP hD hS (lv_sub hl [0, 1, 2] rfl)
    · have hw := hw.2 c_14
      refine lv_aload_n hx hb dX12_fraction_51 rfl (lv_at hl 0 rfl) ?_
      refine mw_get (v := .ref (R 9)) hx hb hts hin12 hown hK hP 9 (by decide) (hts (.fieldLink RX12 108 "HiddenMovesModel" "numbers" "[I") (List.mem_cons_of_mem _ (List.mem_append_left _ (List.mem_of_getElem? (i := 2) rfl)))) (fun _ h9 => h9) rfl dX12_fraction_52 ?_
      refine lv_aload_n hx hb dX12_fraction_55 rfl (lv_at hl 0 rfl) ?_
      refine mw_get (v := .int (hz_i (z_13 46))) hx hb hts hin12 hown hK hP 46 (by decide) (hts (.fieldLink RX12 262 "HiddenMovesModel" "at" "I") (List.mem_cons_of_mem _ (List.mem_append_left _ (List.mem_of_getElem? (i := 0) rfl)))) (fun _ h9 => h9) rfl dX12_fraction_56 ?_
      obtain ⟨h9i, hw⟩ := hw
      refine mw_ild (k := 9) (n := 4001) (i := z_13 46) hx hb hK hP 7 6 rfl rfl h9i (by decide) dX12_fraction_59 ?_
      refine hz_ineg hx hb dX12_fraction_60 ?_
      obtain ⟨h9a, hw⟩ := hw
      refine hz_wi2l hx hb dX12_fraction_61 h9a ?_
      refine lv_goto (tgt := 75) hx hb dX12_fraction_62 (by decide) ?_
      exact L75 z_13 x2 (-(A 9 ((z_13 46).toNat))) hw H locs ls hP hD hS (lv_sub hl [0, 1, 2] rfl)
  have L24 : ∀ (z : Nat → Int) (x2 : Int) (t0 : Int), wp_fraction_24 z A y1 x2 t0  Q → ∀ (H : Heap) (locs : List Loc) (ls : Array Slot), va_P D vwCl (mw_w om R C z A) H → va_D Ad (mw_w om R C z A) → va_S Ad s.heap H locs → lv_has ls 4 [(0, .ref om), (1, .int (hz_i y1)), (2, .int (hz_i x2))] → W p l e (headSpec wsX12_fraction ({ frames := 1, cells := 0, slots := 0, locals := 22 } : Room)).room s m (List.toArray [.ref om, .int (hz_i y1)]) below meth c H locs 0 0 QQ (F0 m 24 ls [.int (hz_i t0)]) := by
    intro z x2 t0 hw H locs ls hP hD hS hl
    refine lv_istore_n (lv' := [(3, .int (hz_i t0)), (0, .ref om), (1, .int (hz_i y1)), (2, .int (hz_i x2))]) hx hb dX12_fraction_24 rfl hl (by decide) rfl (fun ls hl => ?_)
    refine lv_aload_n hx hb dX12_fraction_25 rfl (lv_at hl 1 rfl) ?_
    refine lv_iload_n hx hb dX12_fraction_26 rfl (lv_at hl 0 rfl) ?_
    obtain ⟨h9a, hw⟩ := hw
    refine hz_if_eq (tgt := 39) hx hb dX12_fraction_27 (by decide) h9a (fun c_15 => ?_) (fun c_15 => ?_)
    · have hw := hw.1 c_15
      refine lv_aload_n hx hb dX12_fraction_39 rfl (lv_at hl 1 rfl) ?_
      refine mw_get (v := .int (hz_i (z 46))) hx hb hts hin12 hown hK hP 46 (by decide) (hts (.fieldLink RX12 262 "HiddenMovesModel" "at" "I") (List.mem_cons_of_mem _ (List.mem_append_left _ (List.mem_of_getElem? (i := 0) rfl)))) (fun _ h9 => h9) rfl dX12_fraction_40 ?_
      exact L43 z x2 t0 (z 46) hw H locs ls hP hD hS (lv_sub hl [1, 2, 3, 0] rfl)
    · have hw := hw.2 c_15
      refine lv_aload_n hx hb dX12_fraction_30 rfl (lv_at hl 1 rfl) ?_
      refine mw_get (v := .int (hz_i (z 46))) hx hb hts hin12 hown hK hP 46 (by decide) (hts (.fieldLink RX12 262 "HiddenMovesModel" "at" "I") (List.mem_cons_of_mem _ (List.mem_append_left _ (List.mem_of_getElem? (i := 0) rfl)))) (fun _ h9 => h9) rfl dX12_fraction_31 ?_
      refine lv_iconst (v := hz_i 1) hx hb dX12_fraction_34 (by decide +kernel) ?_
      refine hz_iadd hx hb dX12_fraction_35 ?_
      refine lv_goto (tgt := 43) hx hb dX12_fraction_36 (by decide) ?_
      exact L43 z x2 t0 ((z 46) + 1) hw H locs ls hP hD hS (lv_sub hl [1, 2, 3, 0] rfl)
  have hP := hP0; have hD := hD0; have hS := hS0; have hl := hl0; have hw := hw0
  obtain ⟨H, hH⟩ : ∃ H : Heap, H = s.heap := ⟨_, rfl⟩
  obtain ⟨locs, hlocs⟩ : ∃ L : List Loc, L = [] := ⟨_, rfl⟩
  rw [← hH] at hP
  have hS : va_S Ad s.heap H locs := by rw [hH, hlocs]; exact hS
  refine mw_HL hH hlocs ?_
  refine lv_aload_n hx hb dX12_fraction_0 rfl (lv_at hl 0 rfl) ?_
  refine mw_get (v := .int (hz_i (z 46))) hx hb hts hin12 hown hK hP 46 (by decide) (hts (.fieldLink RX12 262 "HiddenMovesModel" "at" "I") (List.mem_cons_of_mem _ (List.mem_append_left _ (List.mem_of_getElem? (i := 0) rfl)))) (fun _ h9 => h9) rfl dX12_fraction_1 ?_
  refine hz_topi (fun x2_16 hx2_16 => ?_)
  have hw := hw x2_16 hx2_16
  refine lv_istore_n (lv' := [(2, .int (hz_i x2_16)), (0, .ref om), (1, .int (hz_i y1))]) hx hb dX12_fraction_4 rfl hl (by decide) rfl (fun ls hl => ?_)
  refine lv_aload_n hx hb dX12_fraction_5 rfl (lv_at hl 1 rfl) ?_
  refine mw_get (v := .ref (R 7)) hx hb hts hin12 hown hK hP 7 (by decide) (hts (.fieldLink RX12 102 "HiddenMovesModel" "kinds" "[I") (List.mem_cons_of_mem _ (List.mem_append_left _ (List.mem_of_getElem? (i := 1) rfl)))) (fun _ h9 => h9) rfl dX12_fraction_6 ?_
  refine lv_aload_n hx hb dX12_fraction_9 rfl (lv_at hl 1 rfl) ?_
  refine mw_get (v := .int (hz_i (z 46))) hx hb hts hin12 hown hK hP 46 (by decide) (hts (.fieldLink RX12 262 "HiddenMovesModel" "at" "I") (List.mem_cons_of_mem _ (List.mem_append_left _ (List.mem_of_getElem? (i := 0) rfl)))) (fun _ h9 => h9) rfl dX12_fraction_10 ?_
  obtain ⟨h9i, hw⟩ := hw
  refine mw_ild (k := 7) (n := 4001) (i := z 46) hx hb hK hP 5 4 rfl rfl h9i (by decide) dX12_fraction_13 ?_
  refine lv_bipush (v := hz_i 45) hx hb dX12_fraction_14 (by decide +kernel) ?_
  obtain ⟨h9a, hw⟩ := hw
  refine hz_icmp_ne (tgt := 23) hx hb dX12_fraction_16 (by decide) h9a ⟨by decide, by decide⟩ (fun c_17 => ?_) (fun c_17 => ?_)
  · have hw := hw.1 c_17
    refine lv_iconst (v := hz_i 0) hx hb dX12_fraction_23 (by decide +kernel) ?_
    exact L24 z x2_16 0 hw H locs ls hP hD hS (lv_sub hl [1, 2, 0] rfl)
  · have hw := hw.2 c_17
    refine lv_iconst (v := hz_i 1) hx hb dX12_fraction_19 (by decide +kernel) ?_
    refine lv_goto (tgt := 24) hx hb dX12_fraction_20 (by decide) ?_
    exact L24 z x2_16 1 hw H locs ls hP hD hS (lv_sub hl [1, 2, 0] rfl)

noncomputable def wp_findSet_17 (z : Nat → Int) (A : Nat → Nat → Int) (y1 : Int) (y2 : Int) (x3 : Int) (x4 : Int) (Q : Int → (Nat → Nat → Int) → Prop) : Prop := ∀ P17 : Int → Prop, (∀ (x4 : Int), hz_rI x4 ∧ hz_rI x3 ∧ ((x3 ≤ x4 → hz_rI x3 ∧ ((¬ x3 = 10 → ∀ x4_3 : Int, x4_3 = (10 * y1) + x3 → (0 ≤ (20 * (z 33)) + x4_3 ∧ (20 * (z 33)) + x4_3 < 40) ∧ ∀ A_4 : Nat → Nat → Int, A_4 = hz_s A 27 ((20 * (z 33)) + x4_3) y2 → (0 ≤ (20 * (z 33)) + x4_3 ∧ (20 * (z 33)) + x4_3 < 40) ∧ ∀ A_5 : Nat → Nat → Int, A_5 = hz_s A_4 28 ((20 * (z 33)) + x4_3) 0 → (0 ≤ (20 * (z 33)) + x4_3 ∧ (20 * (z 33)) + x4_3 < 40) ∧ ∀ A_6 : Nat → Nat → Int, A_6 = hz_s A_5 29 ((20 * (z 33)) + x4_3) (-1) → (0 ≤ (2 * (z 33)) + y1 ∧ (2 * (z 33)) + y1 < 4) ∧ ∀ A_7 : Nat → Nat → Int, A_7 = hz_s A_6 26 ((2 * (z 33)) + y1) (x3 + 1) → Q x4_3 A_7) ∧ (x3 = 10 → Q (-1) A))) ∧ (¬ (x3 ≤ x4) → (0 ≤ ((20 * (z 33)) + (10 * y1)) + x4 ∧ ((20 * (z 33)) + (10 * y1)) + x4 < 40) ∧ hz_rI (A 27 ((((20 * (z 33)) + (10 * y1)) + x4).toNat)) ∧ hz_rI y2 ∧ ((¬ A 27 ((((20 * (z 33)) + (10 * y1)) + x4).toNat) = y2 → ∀ x4_9 : Int, x4_9 = x4 + 1 → P17 x4_9) ∧ (A 27 ((((20 * (z 33)) + (10 * y1)) + x4).toNat) = y2 → Q ((10 * y1) + x4) A)))) → P17 x4) → P17 x4
noncomputable def wp_findSet (z : Nat → Int) (A : Nat → Nat → Int) (y1 : Int) (y2 : Int) (Q : Int → (Nat → Nat → Int) → Prop) : Prop := (0 ≤ (2 * (z 33)) + y1 ∧ (2 * (z 33)) + y1 < 4) ∧ ∀ x3_10 : Int, x3_10 = A 26 (((2 * (z 33)) + y1).toNat) → wp_findSet_17 z A y1 y2 x3_10 0  Q
set_option maxHeartbeats 4000000 in
set_option maxRecDepth 100000 in
theorem k_findSet (l : Launch) (D : va_G) (sz : Nat) (om : Nat) (R : Nat → Nat) (C : Nat → ClassId) (z : Nat → Int) (A : Nat → Nat → Int) (y1 : Int) (y2 : Int) (Q : Int → (Nat → Nat → Int) → Prop) (hw : wp_findSet z A y1 y2 Q) : Met l yX12_findSet wsX12_findSet ({ frames := 0, cells := 0, slots := 0, locals := 0 } : Room) (va_Pc [.ref om, .int (hz_i y1), .int (hz_i y2)] (hm_P D (mw_w om R C z A) (mw_t C) sz)) (va_Qi (S := Int × (Nat → Int) × (Nat → Nat → Int)) (fun r u => r = hz_i u.1 ∧ Q u.1 u.2.2) (fun u t => hm_B D (va_A (mw_w om R C z A) sz) (mw_w om R C z u.2.2) (mw_t C) t) (va_A (mw_w om R C z A) sz)) 0 0 (va_A (mw_w om R C z A) sz) := by
  refine Met.ofW (cc := cX12_findSet) (maxL := 5) (ret := (some .int)) (by decide) rfl ?_
  intro p e s m args below meth c s₁ B hml hv
  obtain ⟨rfl, hsz, hP, hK, hD0, hE⟩ := hv
  have hx := B.exec
  have hb := B.bytes
  have hr := B.returns
  have hts := atoms_spec (ws := wsX12_findSet) B.pre
  have hown : s.vm.findClass RX12 = some m.cls := findClass_of_methodNamed B.named
  have hlocks := B.notSynchronized
  have hin12 : ∀ w ∈ u_ws RX12 TX12 58, w ∈ wsX12_findSet := fun w h => List.mem_cons_of_mem _ (List.mem_append_right _ (h))
  subst hsz
  have hD := hD0.self (sz := s.heap.size)
  generalize hAe : va_A (mw_w om R C z A) s.heap.size = Ad at hD ⊢
  have hA : ∀ q : Nat, s.heap.size ≤ q → Ad q := fun q h => by rw [← hAe]; exact Or.inr h
  have hS : va_S Ad s.heap s.heap [] := va_S.rf
  have hl := lv_entry ([.ref om, .int (hz_i y1), .int (hz_i y2)]) (n := 5) (Nat.le_of_ble_eq_true rfl)
  rw [lg_entry_eq]
  generalize (lg_sl ([.ref om, .int (hz_i y1), .int (hz_i y2)]) ++ List.replicate (5 - (lg_sl ([.ref om, .int (hz_i y1), .int (hz_i y2)])).length) Slot.unset).toArray = ls at hl ⊢
  have hl : lv_has ls 5 [(0, .ref om), (1, .int (hz_i y1)), (2, .int (hz_i y2))] := hl
  refine mw_Q (fun QQ hQQ => ?_)
  have hP0 := hP; have hD0 := hD; have hS0 := hS; have hl0 := hl; have hw0 := hw
  clear hP hD hS hl hw
  have L17 : ∀ (A : Nat → Nat → Int) (x3 : Int) (x4 : Int), wp_findSet_17 z A y1 y2 x3 x4  Q → ∀ (H : Heap) (locs : List Loc) (ls : Array Slot), va_P D vwCl (mw_w om R C z A) H → va_D Ad (mw_w om R C z A) → va_S Ad s.heap H locs → lv_has ls 5 [(0, .ref om), (1, .int (hz_i y1)), (2, .int (hz_i y2)), (3, .int (hz_i x3)), (4, .int (hz_i x4))] → W p l e (headSpec wsX12_findSet ({ frames := 0, cells := 0, slots := 0, locals := 0 } : Room)).room s m (List.toArray [.ref om, .int (hz_i y1), .int (hz_i y2)]) below meth c H locs 0 0 QQ (F0 m 17 ls []) := by
    intro A x3 x4 hw
    obtain ⟨P17, hP17⟩ : ∃ P : Int → Prop, ∀ (x4 : Int), P x4 ↔ (∀ (H : Heap) (locs : List Loc) (ls : Array Slot), va_P D vwCl (mw_w om R C z A) H → va_D Ad (mw_w om R C z A) → va_S Ad s.heap H locs → lv_has ls 5 [(0, .ref om), (1, .int (hz_i y1)), (2, .int (hz_i y2)), (3, .int (hz_i x3)), (4, .int (hz_i x4))] → W p l e (headSpec wsX12_findSet ({ frames := 0, cells := 0, slots := 0, locals := 0 } : Room)).room s m (List.toArray [.ref om, .int (hz_i y1), .int (hz_i y2)]) below meth c H locs 0 0 QQ (F0 m 17 ls [])) := ⟨fun (x4 : Int) => ∀ (H : Heap) (locs : List Loc) (ls : Array Slot), va_P D vwCl (mw_w om R C z A) H → va_D Ad (mw_w om R C z A) → va_S Ad s.heap H locs → lv_has ls 5 [(0, .ref om), (1, .int (hz_i y1)), (2, .int (hz_i y2)), (3, .int (hz_i x3)), (4, .int (hz_i x4))] → W p l e (headSpec wsX12_findSet ({ frames := 0, cells := 0, slots := 0, locals := 0 } : Room)).room s m (List.toArray [.ref om, .int (hz_i y1), .int (hz_i y2)]) below meth c H locs 0 0 QQ (F0 m 17 ls []), fun _ => Iff.rfl⟩
    refine (hP17 x4).mp (hw P17 ?_)
    intro x4 hw
    refine (hP17 x4).mpr ?_
    intro H locs ls hP hD hS hl
    refine lv_iload hx hb dX12_findSet_17 (lv_at hl 4 rfl) ?_
    refine lv_iload_n hx hb dX12_findSet_19 rfl (lv_at hl 3 rfl) ?_
    obtain ⟨h9a, hw⟩ := hw
    obtain ⟨h9b, hw⟩ := hw
    refine hz_icmp_ge (tgt := 61) hx hb dX12_findSet_20 (by decide) h9a h9b (fun c_1 => ?_) (fun c_1 => ?_)
    · have hw := hw.1 c_1
      refine lv_iload_n hx hb dX12_findSet_61 rfl (lv_at hl 3 rfl) ?_
      refine lv_bipush (v := hz_i 10) hx hb dX12_findSet_62 (by decide +kernel) ?_
      obtain ⟨h9a, hw⟩ := hw
      refine hz_icmp_ne (tgt := 69) hx hb dX12_findSet_64 (by decide) h9a ⟨by decide, by decide⟩ (fun c_2 => ?_) (fun c_2 => ?_)
      · have hw := hw.1 c_2
        refine lv_bipush (v := hz_i 10) hx hb dX12_findSet_69 (by decide +kernel) ?_
        refine lv_iload_n hx hb dX12_findSet_71 rfl (lv_at hl 1 rfl) ?_
        refine hz_imul hx hb dX12_findSet_72 ?_
        refine lv_iload_n hx hb dX12_findSet_73 rfl (lv_at hl 3 rfl) ?_
        refine hz_iadd hx hb dX12_findSet_74 ?_
        refine hz_topi (fun x4_3 hx4_3 => ?_)
        have hw := hw x4_3 hx4_3
        refine lv_istore (lv' := [(4, .int (hz_i x4_3)), (0, .ref om), (1, .int (hz_i y1)), (2, .int (hz_i y2)), (3, .int (hz_i x3))]) hx hb dX12_findSet_75 hl (by decide) rfl (fun ls hl => ?_)
        refine lv_aload_n hx hb dX12_findSet_77 rfl (lv_at hl 1 rfl) ?_
        refine mw_get (v := .ref (R 27)) hx hb hts hin12 hown hK hP 27 (by decide) (hts (.fieldLink RX12 157 "HiddenMovesModel" "number" "[I") (List.mem_cons_of_mem _ (List.mem_append_left _ (List.mem_of_getElem? (i := 2) rfl)))) (fun _ h9 => h9) rfl dX12_findSet_78 ?_
        refine lv_bipush (v := hz_i 20) hx hb dX12_findSet_81 (by decide +kernel) ?_
        refine lv_aload_n hx hb dX12_findSet_83 rfl (lv_at hl 1 rfl) ?_
        refine mw_get (v := .int (hz_i (z 33))) hx hb hts hin12 hown hK hP 33 (by decide) (hts (.fieldLink RX12 172 "HiddenMovesModel" "draft" "I") (List.mem_cons_of_mem _ (List.mem_append_left _ (List.mem_of_getElem? (i := 1) rfl)))) (fun _ h9 => h9) rfl dX12_findSet_84 ?_
        refine hz_imul hx hb dX12_findSet_87 ?_
        refine lv_iload hx hb dX12_findSet_88 (lv_at hl 0 rfl) ?_
        refine hz_iadd hx hb dX12_findSet_90 ?_
        refine lv_iload_n hx hb dX12_findSet_91 rfl (lv_at hl 3 rfl) ?_
        obtain ⟨h9i, hw⟩ := hw
        refine mw_ist (k := 27) (n := 40) (i := (20 * (z 33)) + x4_3) (v := y2) hx hb hK hP hD hS 23 22 rfl rfl (mw_a27 om R C z A) h9i (by decide) dX12_findSet_92 (fun H locs hP hD hS => ?_)
        obtain ⟨A_4, hA_4⟩ : ∃ y : Nat → Nat → Int, y = hz_s A 27 ((20 * (z 33)) + x4_3) y2 := ⟨_, rfl⟩
        rw [← hA_4] at hP hD
        have hw := hw A_4 hA_4
        refine lv_aload_n hx hb dX12_findSet_93 rfl (lv_at hl 1 rfl) ?_
        refine mw_get (v := .ref (R 28)) hx hb hts hin12 hown hK hP 28 (by decide) (hts (.fieldLink RX12 160 "HiddenMovesModel" "moves" "[I") (List.mem_cons_of_mem _ (List.mem_append_left _ (List.mem_of_getElem? (i := 3) rfl)))) (fun _ h9 => h9) rfl dX12_findSet_94 ?_
        refine lv_bipush (v := hz_i 20) hx hb dX12_findSet_97 (by decide +kernel) ?_
        refine lv_aload_n hx hb dX12_findSet_99 rfl (lv_at hl 1 rfl) ?_
        refine mw_get (v := .int (hz_i (z 33))) hx hb hts hin12 hown hK hP 33 (by decide) (hts (.fieldLink RX12 172 "HiddenMovesModel" "draft" "I") (List.mem_cons_of_mem _ (List.mem_append_left _ (List.mem_of_getElem? (i := 1) rfl)))) (fun _ h9 => h9) rfl dX12_findSet_100 ?_
        refine hz_imul hx hb dX12_findSet_103 ?_
        refine lv_iload hx hb dX12_findSet_104 (lv_at hl 0 rfl) ?_
        refine hz_iadd hx hb dX12_findSet_106 ?_
        refine lv_iconst (v := hz_i 0) hx hb dX12_findSet_107 (by decide +kernel) ?_
        obtain ⟨h9i, hw⟩ := hw
        refine mw_ist (k := 28) (n := 40) (i := (20 * (z 33)) + x4_3) (v := 0) hx hb hK hP hD hS 24 23 rfl rfl (mw_a28 om R C z A_4) h9i (by decide) dX12_findSet_108 (fun H locs hP hD hS => ?_)
        obtain ⟨A_5, hA_5⟩ : ∃ y : Nat → Nat → Int, y = hz_s A_4 28 ((20 * (z 33)) + x4_3) 0 := ⟨_, rfl⟩
        rw [← hA_5] at hP hD
        have hw := hw A_5 hA_5
        refine lv_aload_n hx hb dX12_findSet_109 rfl (lv_at hl 1 rfl) ?_
        refine mw_get (v := .ref (R 29)) hx hb hts hin12 hown hK hP 29 (by decide) (hts (.fieldLink RX12 163 "HiddenMovesModel" "earlier" "[I") (List.mem_cons_of_mem _ (List.mem_append_left _ (List.mem_of_getElem? (i := 4) rfl)))) (fun _ h9 => h9) rfl dX12_findSet_110 ?_
        refine lv_bipush (v := hz_i 20) hx hb dX12_findSet_113 (by decide +kernel) ?_
        refine lv_aload_n hx hb dX12_findSet_115 rfl (lv_at hl 1 rfl) ?_
        refine mw_get (v := .int (hz_i (z 33))) hx hb hts hin12 hown hK hP 33 (by decide) (hts (.fieldLink RX12 172 "HiddenMovesModel" "draft" "I") (List.mem_cons_of_mem _ (List.mem_append_left _ (List.mem_of_getElem? (i := 1) rfl)))) (fun _ h9 => h9) rfl dX12_findSet_116 ?_
        refine hz_imul hx hb dX12_findSet_119 ?_
        refine lv_iload hx hb dX12_findSet_120 (lv_at hl 0 rfl) ?_
        refine hz_iadd hx hb dX12_findSet_122 ?_
        refine lv_iconst (v := hz_i (-1)) hx hb dX12_findSet_123 (by decide +kernel) ?_
        obtain ⟨h9i, hw⟩ := hw
        refine mw_ist (k := 29) (n := 40) (i := (20 * (z 33)) + x4_3) (v := (-1)) hx hb hK hP hD hS 25 24 rfl rfl (mw_a29 om R C z A_5) h9i (by decide) dX12_findSet_124 (fun H locs hP hD hS => ?_)
        obtain ⟨A_6, hA_6⟩ : ∃ y : Nat → Nat → Int, y = hz_s A_5 29 ((20 * (z 33)) + x4_3) (-1) := ⟨_, rfl⟩
        rw [← hA_6] at hP hD
        have hw := hw A_6 hA_6
        refine lv_aload_n hx hb dX12_findSet_125 rfl (lv_at hl 1 rfl) ?_
        refine mw_get (v := .ref (R 26)) hx hb hts hin12 hown hK hP 26 (by decide) (hts (.fieldLink RX12 154 "HiddenMovesModel" "many" "[I") (List.mem_cons_of_mem _ (List.mem_append_left _ (List.mem_of_getElem? (i := 0) rfl)))) (fun _ h9 => h9) rfl dX12_findSet_126 ?_
        refine lv_iconst (v := hz_i 2) hx hb dX12_findSet_129 (by decide +kernel) ?_
        refine lv_aload_n hx hb dX12_findSet_130 rfl (lv_at hl 1 rfl) ?_
        refine mw_get (v := .int (hz_i (z 33))) hx hb hts hin12 hown hK hP 33 (by decide) (hts (.fieldLink RX12 172 "HiddenMovesModel" "draft" "I") (List.mem_cons_of_mem _ (List.mem_append_left _ (List.mem_of_getElem? (i := 1) rfl)))) (fun _ h9 => h9) rfl dX12_findSet_131 ?_
        refine hz_imul hx hb dX12_findSet_134 ?_
        refine lv_iload_n hx hb dX12_findSet_135 rfl (lv_at hl 2 rfl) ?_
        refine hz_iadd hx hb dX12_findSet_136 ?_
        refine lv_iload_n hx hb dX12_findSet_137 rfl (lv_at hl 4 rfl) ?_
        refine lv_iconst (v := hz_i 1) hx hb dX12_findSet_138 (by decide +kernel) ?_
        refine hz_iadd hx hb dX12_findSet_139 ?_
        obtain ⟨h9i, hw⟩ := hw
        refine mw_ist (k := 26) (n := 4) (i := (2 * (z 33)) + y1) (v := x3 + 1) hx hb hK hP hD hS 22 21 rfl rfl (mw_a26 om R C z A_6) h9i (by decide) dX12_findSet_140 (fun H locs hP hD hS => ?_)
        obtain ⟨A_7, hA_7⟩ : ∃ y : Nat → Nat → Int, y = hz_s A_6 26 ((2 * (z 33)) + y1) (x3 + 1) := ⟨_, rfl⟩
        rw [← hA_7] at hP hD
        have hw := hw A_7 hA_7
        refine lv_iload hx hb dX12_findSet_141 (lv_at hl 0 rfl) ?_
        subst hQQ
        subst hAe
        exact W.iret (v := hz_i x4_3) hx hb hr (fun t ht hW => ⟨⟨hz_i x4_3, (x4_3, z, A_7), rfl, ⟨rfl, hw⟩, by rw [ht]; exact hP, va_K.moved hW.alike hK, hD⟩, hS.F ht⟩) hS.2.2 dX12_findSet_143
      · have hw := hw.2 c_2
        refine lv_iconst (v := hz_i (-1)) hx hb dX12_findSet_67 (by decide +kernel) ?_
        subst hQQ
        subst hAe
        exact W.iret (v := hz_i (-1)) hx hb hr (fun t ht hW => ⟨⟨hz_i (-1), ((-1), z, A), rfl, ⟨rfl, hw⟩, by rw [ht]; exact hP, va_K.moved hW.alike hK, hD⟩, hS.F ht⟩) hS.2.2 dX12_findSet_68
    · have hw := hw.2 c_1
      refine lv_aload_n hx hb dX12_findSet_23 rfl (lv_at hl 0 rfl) ?_
      refine mw_get (v := .ref (R 27)) hx hb hts hin12 hown hK hP 27 (by decide) (hts (.fieldLink RX12 157 "HiddenMovesModel" "number" "[I") (List.mem_cons_of_mem _ (List.mem_append_left _ (List.mem_of_getElem? (i := 2) rfl)))) (fun _ h9 => h9) rfl dX12_findSet_24 ?_
      refine lv_bipush (v := hz_i 20) hx hb dX12_findSet_27 (by decide +kernel) ?_
      refine lv_aload_n hx hb dX12_findSet_29 rfl (lv_at hl 0 rfl) ?_
      refine mw_get (v := .int (hz_i (z 33))) hx hb hts hin12 hown hK hP 33 (by decide) (hts (.fieldLink RX12 172 "HiddenMovesModel" "draft" "I") (List.mem_cons_of_mem _ (List.mem_append_left _ (List.mem_of_getElem? (i := 1) rfl)))) (fun _ h9 => h9) rfl dX12_findSet_30 ?_
      refine hz_imul hx hb dX12_findSet_33 ?_
      refine lv_bipush (v := hz_i 10) hx hb dX12_findSet_34 (by decide +kernel) ?_
      refine lv_iload_n hx hb dX12_findSet_36 rfl (lv_at hl 1 rfl) ?_
      refine hz_imul hx hb dX12_findSet_37 ?_
      refine hz_iadd hx hb dX12_findSet_38 ?_
      refine lv_iload hx hb dX12_findSet_39 (lv_at hl 4 rfl) ?_
      refine hz_iadd hx hb dX12_findSet_41 ?_
      obtain ⟨h9i, hw⟩ := hw
      refine mw_ild (k := 27) (n := 40) (i := ((20 * (z 33)) + (10 * y1)) + x4) hx hb hK hP 23 22 rfl rfl h9i (by decide) dX12_findSet_42 ?_
      refine lv_iload_n hx hb dX12_findSet_43 rfl (lv_at hl 2 rfl) ?_
      obtain ⟨h9a, hw⟩ := hw
      obtain ⟨h9b, hw⟩ := hw
      refine hz_icmp_ne (tgt := 55) hx hb dX12_findSet_44 (by decide) h9a h9b (fun c_8 => ?_) (fun c_8 => ?_)
      · have hw := hw.1 c_8
        obtain ⟨x4_9, hx4_9⟩ : ∃ y : Int, y = x4 + 1 := ⟨_, rfl⟩
        have hw := hw x4_9 hx4_9
        refine lv_iinc (v := hz_i x4_9) (lv' := [(4, .int (hz_i x4_9)), (0, .ref om), (1, .int (hz_i y1)), (2, .int (hz_i y2)), (3, .int (hz_i x3))]) hx hb dX12_findSet_55 hl (k := 4) rfl (by rw [hx4_9]; exact hz_i_add _ _) (by decide) rfl (fun ls hl => ?_)
        refine lv_goto (tgt := 17) hx hb dX12_findSet_58 (by decide) ?_
        exact (hP17 x4_9).mp hw H locs ls hP hD hS (lv_sub hl [1, 2, 3, 4, 0] rfl)
      · have hw := hw.2 c_8
        refine lv_bipush (v := hz_i 10) hx hb dX12_findSet_47 (by decide +kernel) ?_
        refine lv_iload_n hx hb dX12_findSet_49 rfl (lv_at hl 1 rfl) ?_
        refine hz_imul hx hb dX12_findSet_50 ?_
        refine lv_iload hx hb dX12_findSet_51 (lv_at hl 4 rfl) ?_
        refine hz_iadd hx hb dX12_findSet_53 ?_
        subst hQQ
        subst hAe
        exact W.iret (v := hz_i ((10 * y1) + x4)) hx hb hr (fun t ht hW => ⟨⟨hz_i ((10 * y1) + x4), ((10 * y1) + x4, z, A), rfl, ⟨rfl, hw⟩, by rw [ht]; exact hP, va_K.moved hW.alike hK, hD⟩, hS.F ht⟩) hS.2.2 dX12_findSet_54
  have hP := hP0; have hD := hD0; have hS := hS0; have hl := hl0; have hw := hw0
  obtain ⟨H, hH⟩ : ∃ H : Heap, H = s.heap := ⟨_, rfl⟩
  obtain ⟨locs, hlocs⟩ : ∃ L : List Loc, L = [] := ⟨_, rfl⟩
  rw [← hH] at hP
  have hS : va_S Ad s.heap H locs := by rw [hH, hlocs]; exact hS
  refine mw_HL hH hlocs ?_
  refine lv_aload_n hx hb dX12_findSet_0 rfl (lv_at hl 0 rfl) ?_
  refine mw_get (v := .ref (R 26)) hx hb hts hin12 hown hK hP 26 (by decide) (hts (.fieldLink RX12 154 "HiddenMovesModel" "many" "[I") (List.mem_cons_of_mem _ (List.mem_append_left _ (List.mem_of_getElem? (i := 0) rfl)))) (fun _ h9 => h9) rfl dX12_findSet_1 ?_
  refine lv_iconst (v := hz_i 2) hx hb dX12_findSet_4 (by decide +kernel) ?_
  refine lv_aload_n hx hb dX12_findSet_5 rfl (lv_at hl 0 rfl) ?_
  refine mw_get (v := .int (hz_i (z 33))) hx hb hts hin12 hown hK hP 33 (by decide) (hts (.fieldLink RX12 172 "HiddenMovesModel" "draft" "I") (List.mem_cons_of_mem _ (List.mem_append_left _ (List.mem_of_getElem? (i := 1) rfl)))) (fun _ h9 => h9) rfl dX12_findSet_6 ?_
  refine hz_imul hx hb dX12_findSet_9 ?_
  refine lv_iload_n hx hb dX12_findSet_10 rfl (lv_at hl 1 rfl) ?_
  refine hz_iadd hx hb dX12_findSet_11 ?_
  obtain ⟨h9i, hw⟩ := hw
  refine mw_ild (k := 26) (n := 4) (i := (2 * (z 33)) + y1) hx hb hK hP 22 21 rfl rfl h9i (by decide) dX12_findSet_12 ?_
  refine hz_topi (fun x3_10 hx3_10 => ?_)
  have hw := hw x3_10 hx3_10
  refine lv_istore_n (lv' := [(3, .int (hz_i x3_10)), (0, .ref om), (1, .int (hz_i y1)), (2, .int (hz_i y2))]) hx hb dX12_findSet_13 rfl hl (by decide) rfl (fun ls hl => ?_)
  refine lv_iconst (v := hz_i 0) hx hb dX12_findSet_14 (by decide +kernel) ?_
  refine lv_istore (lv' := [(4, .int (hz_i 0)), (3, .int (hz_i x3_10)), (0, .ref om), (1, .int (hz_i y1)), (2, .int (hz_i y2))]) hx hb dX12_findSet_15 hl (by decide) rfl (fun ls hl => ?_)
  exact L17 A x3_10 0 hw H locs ls hP hD hS (lv_sub hl [2, 3, 4, 1, 0] rfl)

noncomputable def wp_end_191 (z : Nat → Int) (A : Nat → Nat → Int) (x5 : Int) (x12 : Int) (P97 : (Nat → Nat → Int) → Int → Prop) (Q : (Nat → Nat → Int) → Prop) : Prop := ∀ x12_1 : Int, x12_1 = x12 + 1 → P97 A x12_1
noncomputable def wp_end_97 (z : Nat → Int) (A : Nat → Nat → Int) (x5 : Int) (x12 : Int) (Q : (Nat → Nat → Int) → Prop) : Prop := ∀ P97 : (Nat → Nat → Int) → Int → Prop, (∀ (A : Nat → Nat → Int) (x12 : Int), hz_rI x12 ∧ hz_rI (z 45) ∧ ((z 45 ≤ x12 → (0 ≤ z 33 ∧ z 33 < 2) ∧ (0 ≤ x5 ∧ x5 < 800) ∧ (0 ≤ x5 ∧ x5 < 800) ∧ ∀ A_3 : Nat → Nat → Int, A_3 = hz_s A 21 x5 (((8000 * (z 33)) + (A 24 ((z 33).toNat))) - (A 20 (x5.toNat))) → (0 ≤ z 33 ∧ z 33 < 2) ∧ (0 ≤ z 33 ∧ z 33 < 2) ∧ ∀ A_4 : Nat → Nat → Int, A_4 = hz_s A_3 14 (z 33) ((A_3 14 ((z 33).toNat)) + 1) → Q A_4) ∧ (¬ (z 45 ≤ x12) → (0 ≤ x12 ∧ x12 < 24) ∧ hz_rI (A 38 (x12.toNat)) ∧ ((A 38 (x12.toNat) = 63 → wp_end_191 z A x5 x12 P97 Q) ∧ (¬ (A 38 (x12.toNat) = 63) → (0 ≤ z 33 ∧ z 33 < 2) ∧ (0 ≤ x12 ∧ x12 < 24) ∧ (0 ≤ (8000 * (z 33)) + (A 24 ((z 33).toNat)) ∧ (8000 * (z 33)) + (A 24 ((z 33).toNat)) < 16000) ∧ ∀ A_6 : Nat → Nat → Int, A_6 = hz_s A 22 ((8000 * (z 33)) + (A 24 ((z 33).toNat))) (A 39 (x12.toNat)) → (0 ≤ z 33 ∧ z 33 < 2) ∧ (0 ≤ x12 ∧ x12 < 24) ∧ (0 ≤ (8000 * (z 33)) + (A_6 24 ((z 33).toNat)) ∧ (8000 * (z 33)) + (A_6 24 ((z 33).toNat)) < 16000) ∧ ∀ A_7 : Nat → Nat → Int, A_7 = hz_s A_6 23 ((8000 * (z 33)) + (A_6 24 ((z 33).toNat))) (A_6 40 (x12.toNat)) → (0 ≤ z 33 ∧ z 33 < 2) ∧ (0 ≤ z 33 ∧ z 33 < 2) ∧ ∀ A_8 : Nat → Nat → Int, A_8 = hz_s A_7 24 (z 33) ((A_7 24 ((z 33).toNat)) + 1) → wp_end_191 z A_8 x5 x12 P97 Q)))) → P97 A x12) → P97 A x12
noncomputable def wp_end (z : Nat → Int) (A : Nat → Nat → Int) (y1 : Int) (y3 : Int) (Q : (Nat → Nat → Int) → Prop) : Prop := (0 ≤ z 33 ∧ z 33 < 2) ∧ ∀ x5_9 : Int, x5_9 = (400 * (z 33)) + (A 14 ((z 33).toNat)) → ∀ x6_10 : Int, x6_10 = y1 * (z 47) → ∀ x8_11 : Int, x8_11 = y3 * (z 48) → wp_divisor z A x6_10 x8_11 (fun r_12 => ¬ r_12 = 0 ∧ hz_rL x6_10 ∧ hz_rL r_12 ∧ (0 ≤ x5_9 ∧ x5_9 < 800) ∧ ∀ A_13 : Nat → Nat → Int, A_13 = hz_s A 17 x5_9 (x6_10.tdiv r_12) → ¬ r_12 = 0 ∧ hz_rL x8_11 ∧ hz_rL r_12 ∧ (0 ≤ x5_9 ∧ x5_9 < 800) ∧ ∀ A_14 : Nat → Nat → Int, A_14 = hz_s A_13 18 x5_9 (x8_11.tdiv r_12) → (0 ≤ z 33 ∧ z 33 < 2) ∧ (0 ≤ x5_9 ∧ x5_9 < 800) ∧ ∀ A_15 : Nat → Nat → Int, A_15 = hz_s A_14 20 x5_9 ((8000 * (z 33)) + (A_14 24 ((z 33).toNat))) → wp_end_97 z A_15 x5_9 0  Q)
set_option maxHeartbeats 4000000 in
set_option maxRecDepth 100000 in
theorem k_end (l : Launch) (D : va_G) (sz : Nat) (om : Nat) (R : Nat → Nat) (C : Nat → ClassId) (z : Nat → Int) (A : Nat → Nat → Int) (y1 : Int) (y3 : Int) (Q : (Nat → Nat → Int) → Prop) (hw : wp_end z A y1 y3 Q) : Met l yX12_end wsX12_end ({ frames := 1, cells := 0, slots := 0, locals := 29 } : Room) (va_Pc [.ref om, .long (hz_l y1), .long (hz_l y3)] (hm_P D (mw_w om R C z A) (mw_t C) sz)) (va_Qv (S := Int × (Nat → Int) × (Nat → Nat → Int)) (fun u => Q u.2.2) (fun u t => hm_B D (va_A (mw_w om R C z A) sz) (mw_w om R C z u.2.2) (mw_t C) t) (va_A (mw_w om R C z A) sz)) 0 0 (va_A (mw_w om R C z A) sz) := by
  refine Met.ofW (cc := cX12_end) (maxL := 13) (ret := none) (by decide) rfl ?_
  intro p e s m args below meth c s₁ B hml hv
  obtain ⟨rfl, hsz, hP, hK, hD0, hE⟩ := hv
  have hx := B.exec
  have hb := B.bytes
  have hr := B.returns
  have hts := atoms_spec (ws := wsX12_end) B.pre
  have hown : s.vm.findClass RX12 = some m.cls := findClass_of_methodNamed B.named
  have hlocks := B.notSynchronized
  have hin12 : ∀ w ∈ u_ws RX12 TX12 58, w ∈ wsX12_end := fun w h => List.mem_cons_of_mem _ (List.mem_append_right _ (h))
  subst hsz
  have hD := hD0.self (sz := s.heap.size)
  generalize hAe : va_A (mw_w om R C z A) s.heap.size = Ad at hD ⊢
  have hA : ∀ q : Nat, s.heap.size ≤ q → Ad q := fun q h => by rw [← hAe]; exact Or.inr h
  have hS : va_S Ad s.heap s.heap [] := va_S.rf
  have hl := lv_entry ([.ref om, .long (hz_l y1), .long (hz_l y3)]) (n := 13) (Nat.le_of_ble_eq_true rfl)
  rw [lg_entry_eq]
  generalize (lg_sl ([.ref om, .long (hz_l y1), .long (hz_l y3)]) ++ List.replicate (13 - (lg_sl ([.ref om, .long (hz_l y1), .long (hz_l y3)])).length) Slot.unset).toArray = ls at hl ⊢
  have hl : lv_has ls 13 [(0, .ref om), (1, .long (hz_l y1)), (3, .long (hz_l y3))] := hl
  refine mw_Q (fun QQ hQQ => ?_)
  have hP0 := hP; have hD0 := hD; have hS0 := hS; have hl0 := hl; have hw0 := hw
  clear hP hD hS hl hw
  have L97 : ∀ (A : Nat → Nat → Int) (x5 : Int) (x12 : Int), wp_end_97 z A x5 x12  Q → ∀ (H : Heap) (locs : List Loc) (ls : Array Slot), va_P D vwCl (mw_w om R C z A) H → va_D Ad (mw_w om R C z A) → va_S Ad s.heap H locs → lv_has ls 13 [(0, .ref om), (5, .int (hz_i x5)), (12, .int (hz_i x12))] → W p l e (headSpec wsX12_end ({ frames := 1, cells := 0, slots := 0, locals := 29 } : Room)).room s m (List.toArray [.ref om, .long (hz_l y1), .long (hz_l y3)]) below meth c H locs 0 0 QQ (F0 m 97 ls []) := by
    intro A x5 x12 hw
    obtain ⟨P97, hP97⟩ : ∃ P : (Nat → Nat → Int) → Int → Prop, ∀ (A : Nat → Nat → Int) (x12 : Int), P A x12 ↔ (∀ (H : Heap) (locs : List Loc) (ls : Array Slot), va_P D vwCl (mw_w om R C z A) H → va_D Ad (mw_w om R C z A) → va_S Ad s.heap H locs → lv_has ls 13 [(0, .ref om), (5, .int (hz_i x5)), (12, .int (hz_i x12))] → W p l e (headSpec wsX12_end ({ frames := 1, cells := 0, slots := 0, locals := 29 } : Room)).room s m (List.toArray [.ref om, .long (hz_l y1), .long (hz_l y3)]) below meth c H locs 0 0 QQ (F0 m 97 ls [])) := ⟨fun (A : Nat → Nat → Int) (x12 : Int) => ∀ (H : Heap) (locs : List Loc) (ls : Array Slot), va_P D vwCl (mw_w om R C z A) H → va_D Ad (mw_w om R C z A) → va_S Ad s.heap H locs → lv_has ls 13 [(0, .ref om), (5, .int (hz_i x5)), (12, .int (hz_i x12))] → W p l e (headSpec wsX12_end ({ frames := 1, cells := 0, slots := 0, locals := 29 } : Room)).room s m (List.toArray [.ref om, .long (hz_l y1), .long (hz_l y3)]) below meth c H locs 0 0 QQ (F0 m 97 ls []), fun _ _ => Iff.rfl⟩
    refine (hP97 A x12).mp (hw P97 ?_)
    intro A x12 hw
    refine (hP97 A x12).mpr ?_
    intro H locs ls hP hD hS hl
    have L191 : ∀ (A : Nat → Nat → Int) (x12 : Int), wp_end_191 z A x5 x12 P97 Q → ∀ (H : Heap) (locs : List Loc) (ls : Array Slot), va_P D vwCl (mw_w om R C z A) H → va_D Ad (mw_w om R C z A) → va_S Ad s.heap H locs → lv_has ls 13 [(0, .ref om), (5, .int (hz_i x5)), (12, .int (hz_i x12))] → W p l e (headSpec wsX12_end ({ frames := 1, cells := 0, slots := 0, locals := 29 } : Room)).room s m (List.toArray [.ref om, .long (hz_l y1), .long (hz_l y3)]) below meth c H locs 0 0 QQ (F0 m 191 ls []) := by
      intro A x12 hw H locs ls hP hD hS hl
      obtain ⟨x12_1, hx12_1⟩ : ∃ y : Int, y = x12 + 1 := ⟨_, rfl⟩
      have hw := hw x12_1 hx12_1
      refine lv_iinc (v := hz_i x12_1) (lv' := [(12, .int (hz_i x12_1)), (0, .ref om), (5, .int (hz_i x5))]) hx hb dX12_end_191 hl (k := 2) rfl (by rw [hx12_1]; exact hz_i_add _ _) (by decide) rfl (fun ls hl => ?_)
      refine lv_goto (tgt := 97) hx hb dX12_end_194 (by decide) ?_
      exact (hP97 A x12_1).mp hw H locs ls hP hD hS (lv_sub hl [1, 2, 0] rfl)
    refine lv_iload hx hb dX12_end_97 (lv_at hl 2 rfl) ?_
    refine lv_aload_n hx hb dX12_end_99 rfl (lv_at hl 0 rfl) ?_
    refine mw_get (v := .int (hz_i (z 45))) hx hb hts hin12 hown hK hP 45 (by decide) (hts (.fieldLink RX12 275 "HiddenMovesModel" "open" "I") (List.mem_cons_of_mem _ (List.mem_append_left _ (List.mem_of_getElem? (i := 8) rfl)))) (fun _ h9 => h9) rfl dX12_end_100 ?_
    obtain ⟨h9a, hw⟩ := hw
    obtain ⟨h9b, hw⟩ := hw
    refine hz_icmp_ge (tgt := 197) hx hb dX12_end_103 (by decide) h9a h9b (fun c_2 => ?_) (fun c_2 => ?_)
    · have hw := hw.1 c_2
      refine lv_aload_n hx hb dX12_end_197 rfl (lv_at hl 0 rfl) ?_
      refine mw_get (v := .ref (R 21)) hx hb hts hin12 hown hK hP 21 (by decide) (hts (.fieldLink RX12 139 "HiddenMovesModel" "wayMany" "[I") (List.mem_cons_of_mem _ (List.mem_append_left _ (List.mem_of_getElem? (i := 14) rfl)))) (fun _ h9 => h9) rfl dX12_end_198 ?_
      refine lv_iload hx hb dX12_end_201 (lv_at hl 1 rfl) ?_
      refine lv_sipush (v := hz_i 8000) hx hb dX12_end_203 (by decide +kernel) ?_
      refine lv_aload_n hx hb dX12_end_206 rfl (lv_at hl 0 rfl) ?_
      refine mw_get (v := .int (hz_i (z 33))) hx hb hts hin12 hown hK hP 33 (by decide) (hts (.fieldLink RX12 172 "HiddenMovesModel" "draft" "I") (List.mem_cons_of_mem _ (List.mem_append_left _ (List.mem_of_getElem? (i := 0) rfl)))) (fun _ h9 => h9) rfl dX12_end_207 ?_
      refine hz_imul hx hb dX12_end_210 ?_
      refine lv_aload_n hx hb dX12_end_211 rfl (lv_at hl 0 rfl) ?_
      refine mw_get (v := .ref (R 24)) hx hb hts hin12 hown hK hP 24 (by decide) (hts (.fieldLink RX12 148 "HiddenMovesModel" "ways" "[I") (List.mem_cons_of_mem _ (List.mem_append_left _ (List.mem_of_getElem? (i := 7) rfl)))) (fun _ h9 => h9) rfl dX12_end_212 ?_
      refine lv_aload_n hx hb dX12_end_215 rfl (lv_at hl 0 rfl) ?_
      refine mw_get (v := .int (hz_i (z 33))) hx hb hts hin12 hown hK hP 33 (by decide) (hts (.fieldLink RX12 172 "HiddenMovesModel" "draft" "I") (List.mem_cons_of_mem _ (List.mem_append_left _ (List.mem_of_getElem? (i := 0) rfl)))) (fun _ h9 => h9) rfl dX12_end_216 ?_
      obtain ⟨h9i, hw⟩ := hw
      refine mw_ild (k := 24) (n := 2) (i := z 33) hx hb hK hP 20 19 rfl rfl h9i (by decide) dX12_end_219 ?_
      refine hz_iadd hx hb dX12_end_220 ?_
      refine lv_aload_n hx hb dX12_end_221 rfl (lv_at hl 0 rfl) ?_
      refine mw_get (v := .ref (R 20)) hx hb hts hin12 hown hK hP 20 (by decide) (hts (.fieldLink RX12 136 "HiddenMovesModel" "wayFrom" "[I") (List.mem_cons_of_mem _ (List.mem_append_left _ (List.mem_of_getElem? (i := 6) rfl)))) (fun _ h9 => h9) rfl dX12_end_222 ?_
      refine lv_iload hx hb dX12_end_225 (lv_at hl 1 rfl) ?_
      obtain ⟨h9i, hw⟩ := hw
      refine mw_ild (k := 20) (n := 800) (i := x5) hx hb hK hP 16 15 rfl rfl h9i (by decide) dX12_end_227 ?_
      refine hz_isub hx hb dX12_end_228 ?_
      obtain ⟨h9i, hw⟩ := hw
      refine mw_ist (k := 21) (n := 800) (i := x5) (v := ((8000 * (z 33)) + (A 24 ((z 33).toNat))) - (A 20 (x5.toNat))) hx hb hK hP hD hS 17 16 rfl rfl (mw_a21 om R C z A) h9i (by decide) dX12_end_229 (fun H locs hP hD hS => ?_)
      obtain ⟨A_3, hA_3⟩ : ∃ y : Nat → Nat → Int, y = hz_s A 21 x5 (((8000 * (z 33)) + (A 24 ((z 33).toNat))) - (A 20 (x5.toNat))) := ⟨_, rfl⟩
      rw [← hA_3] at hP hD
      have hw := hw A_3 hA_3
      refine lv_aload_n hx hb dX12_end_230 rfl (lv_at hl 0 rfl) ?_
      refine mw_get (v := .ref (R 14)) hx hb hts hin12 hown hK hP 14 (by decide) (hts (.fieldLink RX12 117 "HiddenMovesModel" "ends" "[I") (List.mem_cons_of_mem _ (List.mem_append_left _ (List.mem_of_getElem? (i := 1) rfl)))) (fun _ h9 => h9) rfl dX12_end_231 ?_
      refine lv_aload_n hx hb dX12_end_234 rfl (lv_at hl 0 rfl) ?_
      refine mw_get (v := .int (hz_i (z 33))) hx hb hts hin12 hown hK hP 33 (by decide) (hts (.fieldLink RX12 172 "HiddenMovesModel" "draft" "I") (List.mem_cons_of_mem _ (List.mem_append_left _ (List.mem_of_getElem? (i := 0) rfl)))) (fun _ h9 => h9) rfl dX12_end_235 ?_
      refine lv_dup2_11 hx hb dX12_end_238 rfl rfl ?_
      obtain ⟨h9i, hw⟩ := hw
      refine mw_ild (k := 14) (n := 2) (i := z 33) hx hb hK hP 10 9 rfl rfl h9i (by decide) dX12_end_239 ?_
      refine lv_iconst (v := hz_i 1) hx hb dX12_end_240 (by decide +kernel) ?_
      refine hz_iadd hx hb dX12_end_241 ?_
      obtain ⟨h9i, hw⟩ := hw
      refine mw_ist (k := 14) (n := 2) (i := z 33) (v := (A_3 14 ((z 33).toNat)) + 1) hx hb hK hP hD hS 10 9 rfl rfl (mw_a14 om R C z A_3) h9i (by decide) dX12_end_242 (fun H locs hP hD hS => ?_)
      obtain ⟨A_4, hA_4⟩ : ∃ y : Nat → Nat → Int, y = hz_s A_3 14 (z 33) ((A_3 14 ((z 33).toNat)) + 1) := ⟨_, rfl⟩
      rw [← hA_4] at hP hD
      have hw := hw A_4 hA_4
      subst hQQ
      subst hAe
      exact W.vret hx hb hr (fun t ht hW => ⟨⟨(0, z, A_4), rfl, hw, by rw [ht]; exact hP, va_K.moved hW.alike hK, hD⟩, hS.F ht⟩) hS.2.2 dX12_end_243
    · have hw := hw.2 c_2
      refine lv_aload_n hx hb dX12_end_106 rfl (lv_at hl 0 rfl) ?_
      refine mw_get (v := .ref (R 38)) hx hb hts hin12 hown hK hP 38 (by decide) (hts (.fieldLink RX12 178 "HiddenMovesModel" "openKind" "[I") (List.mem_cons_of_mem _ (List.mem_append_left _ (List.mem_of_getElem? (i := 9) rfl)))) (fun _ h9 => h9) rfl dX12_end_107 ?_
      refine lv_iload hx hb dX12_end_110 (lv_at hl 2 rfl) ?_
      obtain ⟨h9i, hw⟩ := hw
      refine mw_ild (k := 38) (n := 24) (i := x12) hx hb hK hP 29 28 rfl rfl h9i (by decide) dX12_end_112 ?_
      refine lv_bipush (v := hz_i 63) hx hb dX12_end_113 (by decide +kernel) ?_
      obtain ⟨h9a, hw⟩ := hw
      refine hz_icmp_eq (tgt := 191) hx hb dX12_end_115 (by decide) h9a ⟨by decide, by decide⟩ (fun c_5 => ?_) (fun c_5 => ?_)
      · have hw := hw.1 c_5
        exact L191 A x12 hw H locs ls hP hD hS (lv_sub hl [0, 1, 2] rfl)
      · have hw := hw.2 c_5
        refine lv_aload_n hx hb dX12_end_118 rfl (lv_at hl 0 rfl) ?_
        refine mw_get (v := .ref (R 22)) hx hb hts hin12 hown hK hP 22 (by decide) (hts (.fieldLink RX12 142 "HiddenMovesModel" "waySet" "[I") (List.mem_cons_of_mem _ (List.mem_append_left _ (List.mem_of_getElem? (i := 10) rfl)))) (fun _ h9 => h9) rfl dX12_end_119 ?_
        refine lv_sipush (v := hz_i 8000) hx hb dX12_end_122 (by decide +kernel) ?_
        refine lv_aload_n hx hb dX12_end_125 rfl (lv_at hl 0 rfl) ?_
        refine mw_get (v := .int (hz_i (z 33))) hx hb hts hin12 hown hK hP 33 (by decide) (hts (.fieldLink RX12 172 "HiddenMovesModel" "draft" "I") (List.mem_cons_of_mem _ (List.mem_append_left _ (List.mem_of_getElem? (i := 0) rfl)))) (fun _ h9 => h9) rfl dX12_end_126 ?_
        refine hz_imul hx hb dX12_end_129 ?_
        refine lv_aload_n hx hb dX12_end_130 rfl (lv_at hl 0 rfl) ?_
        refine mw_get (v := .ref (R 24)) hx hb hts hin12 hown hK hP 24 (by decide) (hts (.fieldLink RX12 148 "HiddenMovesModel" "ways" "[I") (List.mem_cons_of_mem _ (List.mem_append_left _ (List.mem_of_getElem? (i := 7) rfl)))) (fun _ h9 => h9) rfl dX12_end_131 ?_
        refine lv_aload_n hx hb dX12_end_134 rfl (lv_at hl 0 rfl) ?_
        refine mw_get (v := .int (hz_i (z 33))) hx hb hts hin12 hown hK hP 33 (by decide) (hts (.fieldLink RX12 172 "HiddenMovesModel" "draft" "I") (List.mem_cons_of_mem _ (List.mem_append_left _ (List.mem_of_getElem? (i := 0) rfl)))) (fun _ h9 => h9) rfl dX12_end_135 ?_
        obtain ⟨h9i, hw⟩ := hw
        refine mw_ild (k := 24) (n := 2) (i := z 33) hx hb hK hP 20 19 rfl rfl h9i (by decide) dX12_end_138 ?_
        refine hz_iadd hx hb dX12_end_139 ?_
        refine lv_aload_n hx hb dX12_end_140 rfl (lv_at hl 0 rfl) ?_
        refine mw_get (v := .ref (R 39)) hx hb hts hin12 hown hK hP 39 (by decide) (hts (.fieldLink RX12 181 "HiddenMovesModel" "openSet" "[I") (List.mem_cons_of_mem _ (List.mem_append_left _ (List.mem_of_getElem? (i := 11) rfl)))) (fun _ h9 => h9) rfl dX12_end_141 ?_
        refine lv_iload hx hb dX12_end_144 (lv_at hl 2 rfl) ?_
        obtain ⟨h9i, hw⟩ := hw
        refine mw_ild (k := 39) (n := 24) (i := x12) hx hb hK hP 30 29 rfl rfl h9i (by decide) dX12_end_146 ?_
        obtain ⟨h9i, hw⟩ := hw
        refine mw_ist (k := 22) (n := 16000) (i := (8000 * (z 33)) + (A 24 ((z 33).toNat))) (v := A 39 (x12.toNat)) hx hb hK hP hD hS 18 17 rfl rfl (mw_a22 om R C z A) h9i (by decide) dX12_end_147 (fun H locs hP hD hS => ?_)
        obtain ⟨A_6, hA_6⟩ : ∃ y : Nat → Nat → Int, y = hz_s A 22 ((8000 * (z 33)) + (A 24 ((z 33).toNat))) (A 39 (x12.toNat)) := ⟨_, rfl⟩
        rw [← hA_6] at hP hD
        have hw := hw A_6 hA_6
        refine lv_aload_n hx hb dX12_end_148 rfl (lv_at hl 0 rfl) ?_
        refine mw_get (v := .ref (R 23)) hx hb hts hin12 hown hK hP 23 (by decide) (hts (.fieldLink RX12 145 "HiddenMovesModel" "wayMove" "[I") (List.mem_cons_of_mem _ (List.mem_append_left _ (List.mem_of_getElem? (i := 12) rfl)))) (fun _ h9 => h9) rfl dX12_end_149 ?_
        refine lv_sipush (v := hz_i 8000) hx hb dX12_end_152 (by decide +kernel) ?_
        refine lv_aload_n hx hb dX12_end_155 rfl (lv_at hl 0 rfl) ?_
        refine mw_get (v := .int (hz_i (z 33))) hx hb hts hin12 hown hK hP 33 (by decide) (hts (.fieldLink RX12 172 "HiddenMovesModel" "draft" "I") (List.mem_cons_of_mem _ (List.mem_append_left _ (List.mem_of_getElem? (i := 0) rfl)))) (fun _ h9 => h9) rfl dX12_end_156 ?_
        refine hz_imul hx hb dX12_end_159 ?_
        refine lv_aload_n hx hb dX12_end_160 rfl (lv_at hl 0 rfl) ?_
        refine mw_get (v := .ref (R 24)) hx hb hts hin12 hown hK hP 24 (by decide) (hts (.fieldLink RX12 148 "HiddenMovesModel" "ways" "[I") (List.mem_cons_of_mem _ (List.mem_append_left _ (List.mem_of_getElem? (i := 7) rfl)))) (fun _ h9 => h9) rfl dX12_end_161 ?_
        refine lv_aload_n hx hb dX12_end_164 rfl (lv_at hl 0 rfl) ?_
        refine mw_get (v := .int (hz_i (z 33))) hx hb hts hin12 hown hK hP 33 (by decide) (hts (.fieldLink RX12 172 "HiddenMovesModel" "draft" "I") (List.mem_cons_of_mem _ (List.mem_append_left _ (List.mem_of_getElem? (i := 0) rfl)))) (fun _ h9 => h9) rfl dX12_end_165 ?_
        obtain ⟨h9i, hw⟩ := hw
        refine mw_ild (k := 24) (n := 2) (i := z 33) hx hb hK hP 20 19 rfl rfl h9i (by decide) dX12_end_168 ?_
        refine hz_iadd hx hb dX12_end_169 ?_
        refine lv_aload_n hx hb dX12_end_170 rfl (lv_at hl 0 rfl) ?_
        refine mw_get (v := .ref (R 40)) hx hb hts hin12 hown hK hP 40 (by decide) (hts (.fieldLink RX12 184 "HiddenMovesModel" "openMoves" "[I") (List.mem_cons_of_mem _ (List.mem_append_left _ (List.mem_of_getElem? (i := 13) rfl)))) (fun _ h9 => h9) rfl dX12_end_171 ?_
        refine lv_iload hx hb dX12_end_174 (lv_at hl 2 rfl) ?_
        obtain ⟨h9i, hw⟩ := hw
        refine mw_ild (k := 40) (n := 24) (i := x12) hx hb hK hP 31 30 rfl rfl h9i (by decide) dX12_end_176 ?_
        obtain ⟨h9i, hw⟩ := hw
        refine mw_ist (k := 23) (n := 16000) (i := (8000 * (z 33)) + (A_6 24 ((z 33).toNat))) (v := A_6 40 (x12.toNat)) hx hb hK hP hD hS 19 18 rfl rfl (mw_a23 om R C z A_6) h9i (by decide) dX12_end_177 (fun H locs hP hD hS => ?_)
        obtain ⟨A_7, hA_7⟩ : ∃ y : Nat → Nat → Int, y = hz_s A_6 23 ((8000 * (z 33)) + (A_6 24 ((z 33).toNat))) (A_6 40 (x12.toNat)) := ⟨_, rfl⟩
        rw [← hA_7] at hP hD
        have hw := hw A_7 hA_7
        refine lv_aload_n hx hb dX12_end_178 rfl (lv_at hl 0 rfl) ?_
        refine mw_get (v := .ref (R 24)) hx hb hts hin12 hown hK hP 24 (by decide) (hts (.fieldLink RX12 148 "HiddenMovesModel" "ways" "[I") (List.mem_cons_of_mem _ (List.mem_append_left _ (List.mem_of_getElem? (i := 7) rfl)))) (fun _ h9 => h9) rfl dX12_end_179 ?_
        refine lv_aload_n hx hb dX12_end_182 rfl (lv_at hl 0 rfl) ?_
        refine mw_get (v := .int (hz_i (z 33))) hx hb hts hin12 hown hK hP 33 (by decide) (hts (.fieldLink RX12 172 "HiddenMovesModel" "draft" "I") (List.mem_cons_of_mem _ (List.mem_append_left _ (List.mem_of_getElem? (i := 0) rfl)))) (fun _ h9 => h9) rfl dX12_end_183 ?_
        refine lv_dup2_11 hx hb dX12_end_186 rfl rfl ?_
        obtain ⟨h9i, hw⟩ := hw
        refine mw_ild (k := 24) (n := 2) (i := z 33) hx hb hK hP 20 19 rfl rfl h9i (by decide) dX12_end_187 ?_
        refine lv_iconst (v := hz_i 1) hx hb dX12_end_188 (by decide +kernel) ?_
        refine hz_iadd hx hb dX12_end_189 ?_
        obtain ⟨h9i, hw⟩ := hw
        refine mw_ist (k := 24) (n := 2) (i := z 33) (v := (A_7 24 ((z 33).toNat)) + 1) hx hb hK hP hD hS 20 19 rfl rfl (mw_a24 om R C z A_7) h9i (by decide) dX12_end_190 (fun H locs hP hD hS => ?_)
        obtain ⟨A_8, hA_8⟩ : ∃ y : Nat → Nat → Int, y = hz_s A_7 24 (z 33) ((A_7 24 ((z 33).toNat)) + 1) := ⟨_, rfl⟩
        rw [← hA_8] at hP hD
        have hw := hw A_8 hA_8
        exact L191 A_8 x12 hw H locs ls hP hD hS (lv_sub hl [0, 1, 2] rfl)
  have hP := hP0; have hD := hD0; have hS := hS0; have hl := hl0; have hw := hw0
  obtain ⟨H, hH⟩ : ∃ H : Heap, H = s.heap := ⟨_, rfl⟩
  obtain ⟨locs, hlocs⟩ : ∃ L : List Loc, L = [] := ⟨_, rfl⟩
  rw [← hH] at hP
  have hS : va_S Ad s.heap H locs := by rw [hH, hlocs]; exact hS
  refine mw_HL hH hlocs ?_
  refine lv_sipush (v := hz_i 400) hx hb dX12_end_0 (by decide +kernel) ?_
  refine lv_aload_n hx hb dX12_end_3 rfl (lv_at hl 0 rfl) ?_
  refine mw_get (v := .int (hz_i (z 33))) hx hb hts hin12 hown hK hP 33 (by decide) (hts (.fieldLink RX12 172 "HiddenMovesModel" "draft" "I") (List.mem_cons_of_mem _ (List.mem_append_left _ (List.mem_of_getElem? (i := 0) rfl)))) (fun _ h9 => h9) rfl dX12_end_4 ?_
  refine hz_imul hx hb dX12_end_7 ?_
  refine lv_aload_n hx hb dX12_end_8 rfl (lv_at hl 0 rfl) ?_
  refine mw_get (v := .ref (R 14)) hx hb hts hin12 hown hK hP 14 (by decide) (hts (.fieldLink RX12 117 "HiddenMovesModel" "ends" "[I") (List.mem_cons_of_mem _ (List.mem_append_left _ (List.mem_of_getElem? (i := 1) rfl)))) (fun _ h9 => h9) rfl dX12_end_9 ?_
  refine lv_aload_n hx hb dX12_end_12 rfl (lv_at hl 0 rfl) ?_
  refine mw_get (v := .int (hz_i (z 33))) hx hb hts hin12 hown hK hP 33 (by decide) (hts (.fieldLink RX12 172 "HiddenMovesModel" "draft" "I") (List.mem_cons_of_mem _ (List.mem_append_left _ (List.mem_of_getElem? (i := 0) rfl)))) (fun _ h9 => h9) rfl dX12_end_13 ?_
  obtain ⟨h9i, hw⟩ := hw
  refine mw_ild (k := 14) (n := 2) (i := z 33) hx hb hK hP 10 9 rfl rfl h9i (by decide) dX12_end_16 ?_
  refine hz_iadd hx hb dX12_end_17 ?_
  refine hz_topi (fun x5_9 hx5_9 => ?_)
  have hw := hw x5_9 hx5_9
  refine lv_istore (lv' := [(5, .int (hz_i x5_9)), (0, .ref om), (1, .long (hz_l y1)), (3, .long (hz_l y3))]) hx hb dX12_end_18 hl (by decide) rfl (fun ls hl => ?_)
  refine lv_lload_n hx hb dX12_end_20 rfl (lv_at hl 2 rfl) ?_
  refine lv_aload_n hx hb dX12_end_21 rfl (lv_at hl 1 rfl) ?_
  refine mw_get (v := .long (hz_l (z 47))) hx hb hts hin12 hown hK hP 47 (by decide) (hts (.fieldLink RX12 265 "HiddenMovesModel" "readTop" "J") (List.mem_cons_of_mem _ (List.mem_append_left _ (List.mem_of_getElem? (i := 2) rfl)))) (fun _ h9 => h9) rfl dX12_end_22 ?_
  refine hz_lmul hx hb dX12_end_25 ?_
  refine hz_topl (fun x6_10 hx6_10 => ?_)
  have hw := hw x6_10 hx6_10
  refine lv_lstore (lv' := [(6, .long (hz_l x6_10)), (5, .int (hz_i x5_9)), (0, .ref om), (1, .long (hz_l y1)), (3, .long (hz_l y3))]) hx hb dX12_end_26 hl (by decide) rfl (fun ls hl => ?_)
  refine lv_lload_n hx hb dX12_end_28 rfl (lv_at hl 4 rfl) ?_
  refine lv_aload_n hx hb dX12_end_29 rfl (lv_at hl 2 rfl) ?_
  refine mw_get (v := .long (hz_l (z 48))) hx hb hts hin12 hown hK hP 48 (by decide) (hts (.fieldLink RX12 269 "HiddenMovesModel" "readBottom" "J") (List.mem_cons_of_mem _ (List.mem_append_left _ (List.mem_of_getElem? (i := 3) rfl)))) (fun _ h9 => h9) rfl dX12_end_30 ?_
  refine hz_lmul hx hb dX12_end_33 ?_
  refine hz_topl (fun x8_11 hx8_11 => ?_)
  have hw := hw x8_11 hx8_11
  refine lv_lstore (lv' := [(8, .long (hz_l x8_11)), (6, .long (hz_l x6_10)), (5, .int (hz_i x5_9)), (0, .ref om), (1, .long (hz_l y1)), (3, .long (hz_l y3))]) hx hb dX12_end_34 hl (by decide) rfl (fun ls hl => ?_)
  refine lv_lload hx hb dX12_end_36 (lv_at hl 1 rfl) ?_
  refine lv_lload hx hb dX12_end_38 (lv_at hl 0 rfl) ?_
  have hFc := mw_free hD hS hA
  refine va_calll (va_runS (As := [.long (hz_l x6_10), .long (hz_l x8_11)]) (rest := []) ⟨hx, hb, hml, hown, hts⟩ (k_divisor l D _ om R C z A x6_10 x8_11 _ hw) (va_cwS 2 hts gX12_end_X12_divisor rfl rfl rfl (by decide +kernel) ⟨Nat.le_of_ble_eq_true rfl, Nat.le_of_ble_eq_true rfl⟩) ⟨hm_blind, hm_pre hP hK hD hE⟩ rfl rfl hl.1 rfl (lv_room (Nat.le_of_ble_eq_true rfl)) dX12_end_40 ⟨Nat.le_of_ble_eq_true rfl, Nat.le_of_ble_eq_true rfl⟩) hS (fun q _ h => hFc q h) hFc (fun rv u t H1 locs ht hvm hw hB hz1 hk1 hS => ?_)
  obtain ⟨r_12, _, _⟩ := u
  obtain ⟨hP, hK1, hD1⟩ := hB
  rw [ht] at hP
  obtain ⟨hrv, hw⟩ := hw
  subst hrv
  have hD := hD1.weaken (fun k q _ h => hFc q.1 h)
  have hP : va_P D vwCl (mw_w om R C z A) H1 := hP
  have hD : va_D Ad (mw_w om R C z A) := hD
  generalize H1 = H at hP hS ⊢
  refine W.eq (g2 := F0 m 43 ls [.long (hz_l r_12)]) rfl ?_
  refine lv_lstore (lv' := [(10, .long (hz_l r_12)), (8, .long (hz_l x8_11)), (6, .long (hz_l x6_10)), (5, .int (hz_i x5_9)), (0, .ref om), (1, .long (hz_l y1)), (3, .long (hz_l y3))]) hx hb dX12_end_43 hl (by decide) rfl (fun ls hl => ?_)
  refine lv_aload_n hx hb dX12_end_45 rfl (lv_at hl 4 rfl) ?_
  refine mw_get (v := .ref (R 17)) hx hb hts hin12 hown hK hP 17 (by decide) (hts (.fieldLink RX12 126 "HiddenMovesModel" "endTop" "[J") (List.mem_cons_of_mem _ (List.mem_append_left _ (List.mem_of_getElem? (i := 4) rfl)))) (fun _ h9 => h9) rfl dX12_end_46 ?_
  refine lv_iload hx hb dX12_end_49 (lv_at hl 3 rfl) ?_
  refine lv_lload hx hb dX12_end_51 (lv_at hl 2 rfl) ?_
  refine lv_lload hx hb dX12_end_53 (lv_at hl 0 rfl) ?_
  obtain ⟨h9n, h9a, h9b, hw⟩ := hw
  refine hz_ldiv hx hb dX12_end_55 h9n h9a h9b ?_
  obtain ⟨h9i, hw⟩ := hw
  refine mw_lst (k := 17) (n := 800) (i := x5_9) (v := x6_10.tdiv r_12) hx hb hK hP hD hS 13 12 rfl rfl (mw_a17 om R C z A) h9i (by decide) dX12_end_56 (fun H locs hP hD hS => ?_)
  obtain ⟨A_13, hA_13⟩ : ∃ y : Nat → Nat → Int, y = hz_s A 17 x5_9 (x6_10.tdiv r_12) := ⟨_, rfl⟩
  rw [← hA_13] at hP hD
  have hw := hw A_13 hA_13
  refine lv_aload_n hx hb dX12_end_57 rfl (lv_at hl 4 rfl) ?_
  refine mw_get (v := .ref (R 18)) hx hb hts hin12 hown hK hP 18 (by decide) (hts (.fieldLink RX12 130 "HiddenMovesModel" "endBottom" "[J") (List.mem_cons_of_mem _ (List.mem_append_left _ (List.mem_of_getElem? (i := 5) rfl)))) (fun _ h9 => h9) rfl dX12_end_58 ?_
  refine lv_iload hx hb dX12_end_61 (lv_at hl 3 rfl) ?_
  refine lv_lload hx hb dX12_end_63 (lv_at hl 1 rfl) ?_
  refine lv_lload hx hb dX12_end_65 (lv_at hl 0 rfl) ?_
  obtain ⟨h9n, h9a, h9b, hw⟩ := hw
  refine hz_ldiv hx hb dX12_end_67 h9n h9a h9b ?_
  obtain ⟨h9i, hw⟩ := hw
  refine mw_lst (k := 18) (n := 800) (i := x5_9) (v := x8_11.tdiv r_12) hx hb hK hP hD hS 14 13 rfl rfl (mw_a18 om R C z A_13) h9i (by decide) dX12_end_68 (fun H locs hP hD hS => ?_)
  obtain ⟨A_14, hA_14⟩ : ∃ y : Nat → Nat → Int, y = hz_s A_13 18 x5_9 (x8_11.tdiv r_12) := ⟨_, rfl⟩
  rw [← hA_14] at hP hD
  have hw := hw A_14 hA_14
  refine lv_aload_n hx hb dX12_end_69 rfl (lv_at hl 4 rfl) ?_
  refine mw_get (v := .ref (R 20)) hx hb hts hin12 hown hK hP 20 (by decide) (hts (.fieldLink RX12 136 "HiddenMovesModel" "wayFrom" "[I") (List.mem_cons_of_mem _ (List.mem_append_left _ (List.mem_of_getElem? (i := 6) rfl)))) (fun _ h9 => h9) rfl dX12_end_70 ?_
  refine lv_iload hx hb dX12_end_73 (lv_at hl 3 rfl) ?_
  refine lv_sipush (v := hz_i 8000) hx hb dX12_end_75 (by decide +kernel) ?_
  refine lv_aload_n hx hb dX12_end_78 rfl (lv_at hl 4 rfl) ?_
  refine mw_get (v := .int (hz_i (z 33))) hx hb hts hin12 hown hK hP 33 (by decide) (hts (.fieldLink RX12 172 "HiddenMovesModel" "draft" "I") (List.mem_cons_of_mem _ (List.mem_append_left _ (List.mem_of_getElem? (i := 0) rfl)))) (fun _ h9 => h9) rfl dX12_end_79 ?_
  refine hz_imul hx hb dX12_end_82 ?_
  refine lv_aload_n hx hb dX12_end_83 rfl (lv_at hl 4 rfl) ?_
  refine mw_get (v := .ref (R 24)) hx hb hts hin12 hown hK hP 24 (by decide) (hts (.fieldLink RX12 148 "HiddenMovesModel" "ways" "[I") (List.mem_cons_of_mem _ (List.mem_append_left _ (List.mem_of_getElem? (i := 7) rfl)))) (fun _ h9 => h9) rfl dX12_end_84 ?_
  refine lv_aload_n hx hb dX12_end_87 rfl (lv_at hl 4 rfl) ?_
  refine mw_get (v := .int (hz_i (z 33))) hx hb hts hin12 hown hK hP 33 (by decide) (hts (.fieldLink RX12 172 "HiddenMovesModel" "draft" "I") (List.mem_cons_of_mem _ (List.mem_append_left _ (List.mem_of_getElem? (i := 0) rfl)))) (fun _ h9 => h9) rfl dX12_end_88 ?_
  obtain ⟨h9i, hw⟩ := hw
  refine mw_ild (k := 24) (n := 2) (i := z 33) hx hb hK hP 20 19 rfl rfl h9i (by decide) dX12_end_91 ?_
  refine hz_iadd hx hb dX12_end_92 ?_
  obtain ⟨h9i, hw⟩ := hw
  refine mw_ist (k := 20) (n := 800) (i := x5_9) (v := (8000 * (z 33)) + (A_14 24 ((z 33).toNat))) hx hb hK hP hD hS 16 15 rfl rfl (mw_a20 om R C z A_14) h9i (by decide) dX12_end_93 (fun H locs hP hD hS => ?_)
  obtain ⟨A_15, hA_15⟩ : ∃ y : Nat → Nat → Int, y = hz_s A_14 20 x5_9 ((8000 * (z 33)) + (A_14 24 ((z 33).toNat))) := ⟨_, rfl⟩
  rw [← hA_15] at hP hD
  have hw := hw A_15 hA_15
  refine lv_iconst (v := hz_i 0) hx hb dX12_end_94 (by decide +kernel) ?_
  refine lv_istore (lv' := [(12, .int (hz_i 0)), (10, .long (hz_l r_12)), (8, .long (hz_l x8_11)), (6, .long (hz_l x6_10)), (5, .int (hz_i x5_9)), (0, .ref om), (1, .long (hz_l y1)), (3, .long (hz_l y3))]) hx hb dX12_end_95 hl (by decide) rfl (fun ls hl => ?_)
  exact L97 A_15 x5_9 0 hw H locs ls hP hD hS (lv_sub hl [5, 4, 0] rfl)
