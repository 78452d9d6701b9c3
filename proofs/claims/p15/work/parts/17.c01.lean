-- 17.c02
noncomputable def wp_c10_takeNumber_114 (L : List Nat) (K : Nat → cw_K) (z : Nat → Nat → Int) (r : Nat → Nat → Nat) (A : Nat → Nat → Int) (t0 : Int) (t1 : Nat) (Q : (Nat → Nat → Int) → Prop) : Prop := cw_O L K 10 t1 ∧ ∀ z_2 : Nat → Nat → Int, z_2 = cw_s z t1 2 t0 → Q z_2
noncomputable def wp_c10_takeNumber_94 (L : List Nat) (K : Nat → cw_K) (z : Nat → Nat → Int) (r : Nat → Nat → Nat) (A : Nat → Nat → Int) (y0 : Nat) (Q : (Nat → Nat → Int) → Prop) : Prop := cw_O L K 10 y0 ∧ hz_rI ((z y0 5) - (z y0 3)) ∧ ((4 < (z y0 5) - (z y0 3) → wp_c10_takeNumber_114 L K z r A 1 y0  Q) ∧ (¬ (4 < (z y0 5) - (z y0 3)) → wp_c10_takeNumber_114 L K z r A 48 y0  Q))
noncomputable def wp_c10_takeNumber_81 (L : List Nat) (K : Nat → cw_K) (z : Nat → Nat → Int) (r : Nat → Nat → Nat) (A : Nat → Nat → Int) (y0 : Nat) (P5 : (Nat → Nat → Int) → Prop) (Q : (Nat → Nat → Int) → Prop) : Prop := cw_O L K 10 y0 ∧ ∀ z_6 : Nat → Nat → Int, z_6 = cw_s z y0 5 ((z y0 5) + 1) → P5 z_6
noncomputable def wp_c10_takeNumber_5 (L : List Nat) (K : Nat → cw_K) (z : Nat → Nat → Int) (r : Nat → Nat → Nat) (A : Nat → Nat → Int) (y0 : Nat) (Q : (Nat → Nat → Int) → Prop) : Prop := ∀ P5 : (Nat → Nat → Int) → Prop, (∀ (z : Nat → Nat → Int), cw_O L K 10 y0 ∧ hz_rI (z y0 5) ∧ hz_rI (z y0 1) ∧ ((z y0 1 ≤ z y0 5 → wp_c10_takeNumber_94 L K z r A y0  Q) ∧ (¬ (z y0 1 ≤ z y0 5) → cw_A L K 2 (r y0 0) ∧ ((0 : Int) ≤ z y0 5 ∧ z y0 5 < (cw_n K (r y0 0) : Int)) ∧ hz_rI (A (r y0 0) ((z y0 5).toNat)) ∧ ((A (r y0 0) ((z y0 5).toNat) < 48 → wp_c10_takeNumber_94 L K z r A y0  Q) ∧ (¬ (A (r y0 0) ((z y0 5).toNat) < 48) → ((0 : Int) ≤ z y0 5 ∧ z y0 5 < (cw_n K (r y0 0) : Int)) ∧ hz_rI (A (r y0 0) ((z y0 5).toNat)) ∧ ((57 < A (r y0 0) ((z y0 5).toNat) → wp_c10_takeNumber_94 L K z r A y0  Q) ∧ (¬ (57 < A (r y0 0) ((z y0 5).toNat)) → hz_rI ((z y0 5) - (z y0 3)) ∧ ((4 ≤ (z y0 5) - (z y0 3) → wp_c10_takeNumber_81 L K z r A y0 P5 Q) ∧ (¬ (4 ≤ (z y0 5) - (z y0 3)) → ((0 : Int) ≤ z y0 5 ∧ z y0 5 < (cw_n K (r y0 0) : Int)) ∧ ∀ x9_13 : Int, hz_rI x9_13 → x9_13 % 4294967296 = (((10 * (z y0 4)) + (A (r y0 0) ((z y0 5).toNat))) - 48) % 4294967296 → ∀ z_14 : Nat → Nat → Int, z_14 = cw_s z y0 4 x9_13 → wp_c10_takeNumber_81 L K z_14 r A y0 P5 Q)))))))) → P5 z) → P5 z
noncomputable def wp_c10_takeNumber (L : List Nat) (K : Nat → cw_K) (z : Nat → Nat → Int) (r : Nat → Nat → Nat) (A : Nat → Nat → Int) (y0 : Nat) (Q : (Nat → Nat → Int) → Prop) : Prop := cw_O L K 10 y0 ∧ ∀ z_16 : Nat → Nat → Int, z_16 = cw_s z y0 4 0 → wp_c10_takeNumber_5 L K z_16 r A y0  Q
set_option maxHeartbeats 4000000 in
set_option maxRecDepth 100000 in
theorem k_c10_takeNumber (l : Launch) (D : va_G) (sz : Nat) (C : Nat → ClassId) (L : List Nat) (K : Nat → cw_K) (z : Nat → Nat → Int) (r : Nat → Nat → Nat) (A : Nat → Nat → Int) (y0 : Nat) (Q : (Nat → Nat → Int) → Prop) (hw : wp_c10_takeNumber L K z r A y0 Q) : Met l yX10_takeNumber wsX10_takeNumber ({ frames := 0, cells := 0, slots := 0, locals := 0 } : Room) (va_Pc [.ref y0] (hm_P D (cw_w C L K z r A) (cw_t C) sz)) (va_Qv (S := Int × (Nat → Nat → Int) × (Nat → Nat → Nat) × (Nat → Nat → Int)) (fun u => Q u.2.1) (fun u t => hm_B D (va_A (cw_w C L K z r A) sz) (cw_w C L K u.2.1 r A) (cw_t C) t) (va_A (cw_w C L K z r A) sz)) 0 0 (va_A (cw_w C L K z r A) sz) := by
  refine Met.ofW (cc := cX10_takeNumber) (maxL := 1) (ret := none) (by decide) rfl ?_
  intro p e s m args below meth c s₁ B hml hv
  obtain ⟨rfl, hsz, hP, hK, hD0, hE⟩ := hv
  have hx := B.exec
  have hb := B.bytes
  have hr := B.returns
  have hts := atoms_spec (ws := wsX10_takeNumber) B.pre
  have hown : s.vm.findClass RX10 = some m.cls := findClass_of_methodNamed B.named
  have hlocks := B.notSynchronized
  have hin10 : ∀ w ∈ u_ws RX10 TX10 6, w ∈ wsX10_takeNumber := fun w h => List.mem_cons_of_mem _ (List.mem_append_right _ (h))
  subst hsz
  have hD := hD0.self (sz := s.heap.size)
  generalize hAe : va_A (cw_w C L K z r A) s.heap.size = Ad at hD ⊢
  have hA : ∀ q : Nat, s.heap.size ≤ q → Ad q := fun q h => by rw [← hAe]; exact Or.inr h
  have hS : va_S Ad s.heap s.heap [] := va_S.rf
  have hl := lv_entry ([.ref y0]) (n := 1) (Nat.le_of_ble_eq_true rfl)
  rw [lg_entry_eq]
  generalize (lg_sl ([.ref y0]) ++ List.replicate (1 - (lg_sl ([.ref y0])).length) Slot.unset).toArray = ls at hl ⊢
  have hl : lv_has ls 1 [(0, .ref y0)] := hl
  refine mw_Q (fun QQ hQQ => ?_)
  have hP0 := hP; have hD0 := hD; have hS0 := hS; have hl0 := hl; have hw0 := hw
  clear hP hD hS hl hw
  have L114 : ∀ (z : Nat → Nat → Int) (t0 : Int) (t1 : Nat), wp_c10_takeNumber_114 L K z r A t0 t1  Q → ∀ (H : Heap) (locs : List Loc) (ls : Array Slot), va_P D vwCl (cw_w C L K z r A) H → va_D Ad (cw_w C L K z r A) → va_S Ad s.heap H locs → lv_has ls 1 [] → W p l e (headSpec wsX10_takeNumber ({ frames := 0, cells := 0, slots := 0, locals := 0 } : Room)).room s m (List.toArray [.ref y0]) below meth c H locs 0 0 QQ (F0 m 114 ls [.int (hz_i t0), .ref t1]) := by
    intro z t0 t1 hw H locs ls hP hD hS hl
    obtain ⟨hO_1, hw⟩ := hw
    refine cw_putz (ci := 10) (ty := .int) (v := .int (hz_i t0)) (x := t0) hx hb hts hin10 tyX10 tyX10_ok nmX10 hown hK hP hD hS hO_1.1 hO_1.2 rfl 2 (by decide) (hts (.fieldLink RX10 19 "HiddenMoves$Words" "kind" "I") (List.mem_cons_of_mem _ (List.mem_append_left _ (List.mem_of_getElem? (i := 5) rfl)))) (fun _ h9 => h9) rfl (by decide +kernel) rfl rfl (Nat.le_of_ble_eq_true rfl) (cw_z10_2 _ _ _) dX10_takeNumber_114 (fun H locs hP hD hS => ?_)
    obtain ⟨z_2, hz_2⟩ : ∃ y : Nat → Nat → Int, y = cw_s z t1 2 t0 := ⟨_, rfl⟩
    rw [← hz_2] at hP hD
    have hw := hw z_2 hz_2
    subst hQQ
    subst hAe
    exact W.vret hx hb hr (fun t ht hW => ⟨⟨(0, z_2, r, A), rfl, hw, by rw [ht]; exact hP, va_K.moved hW.alike hK, hD⟩, hS.F ht⟩) hS.2.2 dX10_takeNumber_117
  have L94 : ∀ (z : Nat → Nat → Int), wp_c10_takeNumber_94 L K z r A y0  Q → ∀ (H : Heap) (locs : List Loc) (ls : Array Slot), va_P D vwCl (cw_w C L K z r A) H → va_D Ad (cw_w C L K z r A) → va_S Ad s.heap H locs → lv_has ls 1 [(0, .ref y0)] → W p l e (headSpec wsX10_takeNumber ({ frames := 0, cells := 0, slots := 0, locals := 0 } : Room)).room s m (List.toArray [.ref y0]) below meth c H locs 0 0 QQ (F0 m 94 ls []) := by
    intro z hw H locs ls hP hD hS hl
    refine lv_aload_n hx hb dX10_takeNumber_94 rfl (lv_at hl 0 rfl) ?_
    refine lv_aload_n hx hb dX10_takeNumber_95 rfl (lv_at hl 0 rfl) ?_
    obtain ⟨hO_3, hw⟩ := hw
    refine cw_get (ci := 10) (v := .int (hz_i (z y0 5))) hx hb hts hin10 hown hK hP hO_3.1 hO_3.2 rfl 5 (by decide) (hts (.fieldLink RX10 28 "HiddenMoves$Words" "behind" "I") (List.mem_cons_of_mem _ (List.mem_append_left _ (List.mem_of_getElem? (i := 1) rfl)))) (fun _ h9 => h9) rfl dX10_takeNumber_96 ?_
    refine lv_aload_n hx hb dX10_takeNumber_99 rfl (lv_at hl 0 rfl) ?_
    refine cw_get (ci := 10) (v := .int (hz_i (z y0 3))) hx hb hts hin10 hown hK hP hO_3.1 hO_3.2 rfl 3 (by decide) (hts (.fieldLink RX10 22 "HiddenMoves$Words" "begin" "I") (List.mem_cons_of_mem _ (List.mem_append_left _ (List.mem_of_getElem? (i := 4) rfl)))) (fun _ h9 => h9) rfl dX10_takeNumber_100 ?_
    refine hz_isub hx hb dX10_takeNumber_103 ?_
    refine lv_iconst (v := hz_i 4) hx hb dX10_takeNumber_104 (by decide +kernel) ?_
    obtain ⟨h9a, hw⟩ := hw
    refine hz_icmp_gt (tgt := 113) hx hb dX10_takeNumber_105 (by decide) h9a ⟨by decide, by decide⟩ (fun c_4 => ?_) (fun c_4 => ?_)
    · have hw := hw.1 c_4
      refine lv_iconst (v := hz_i 1) hx hb dX10_takeNumber_113 (by decide +kernel) ?_
      exact L114 z 1 y0 hw H locs ls hP hD hS (lv_sub hl [] rfl)
    · have hw := hw.2 c_4
      refine lv_bipush (v := hz_i 48) hx hb dX10_takeNumber_108 (by decide +kernel) ?_
      refine lv_goto (tgt := 114) hx hb dX10_takeNumber_110 (by decide) ?_
      exact L114 z 48 y0 hw H locs ls hP hD hS (lv_sub hl [] rfl)
  have L5 : ∀ (z : Nat → Nat → Int), wp_c10_takeNumber_5 L K z r A y0  Q → ∀ (H : Heap) (locs : List Loc) (ls : Array Slot), va_P D vwCl (cw_w C L K z r A) H → va_D Ad (cw_w C L K z r A) → va_S Ad s.heap H locs → lv_has ls 1 [(0, .ref y0)] → W p l e (headSpec wsX10_takeNumber ({ frames := 0, cells := 0, slots := 0, locals := 0 } : Room)).room s m (List.toArray [.ref y0]) below meth c H locs 0 0 QQ (F0 m 5 ls []) := by
    intro z hw
    obtain ⟨P5, hP5⟩ : ∃ P : (Nat → Nat → Int) → Prop, ∀ (z : Nat → Nat → Int), P z ↔ (∀ (H : Heap) (locs : List Loc) (ls : Array Slot), va_P D vwCl (cw_w C L K z r A) H → va_D Ad (cw_w C L K z r A) → va_S Ad s.heap H locs → lv_has ls 1 [(0, .ref y0)] → W p l e (headSpec wsX10_takeNumber ({ frames := 0, cells := 0, slots := 0, locals := 0 } : Room)).room s m (List.toArray [.ref y0]) below meth c H locs 0 0 QQ (F0 m 5 ls [])) := ⟨fun (z : Nat → Nat → Int) => ∀ (H : Heap) (locs : List Loc) (ls : Array Slot), va_P D vwCl (cw_w C L K z r A) H → va_D Ad (cw_w C L K z r A) → va_S Ad s.heap H locs → lv_has ls 1 [(0, .ref y0)] → W p l e (headSpec wsX10_takeNumber ({ frames := 0, cells := 0, slots := 0, locals := 0 } : Room)).room s m (List.toArray [.ref y0]) below meth c H locs 0 0 QQ (F0 m 5 ls []), fun _ => Iff.rfl⟩
    refine (hP5 z).mp (hw P5 ?_)
    intro z hw
    refine (hP5 z).mpr ?_
    intro H locs ls hP hD hS hl
    have L81 : ∀ (z : Nat → Nat → Int), wp_c10_takeNumber_81 L K z r A y0 P5 Q → ∀ (H : Heap) (locs : List Loc) (ls : Array Slot), va_P D vwCl (cw_w C L K z r A) H → va_D Ad (cw_w C L K z r A) → va_S Ad s.heap H locs → lv_has ls 1 [(0, .ref y0)] → W p l e (headSpec wsX10_takeNumber ({ frames := 0, cells := 0, slots := 0, locals := 0 } : Room)).room s m (List.toArray [.ref y0]) below meth c H locs 0 0 QQ (F0 m 81 ls []) := by
      intro z hw H locs ls hP hD hS hl
      refine lv_aload_n hx hb dX10_takeNumber_81 rfl (lv_at hl 0 rfl) ?_
      refine lv_dup hx hb dX10_takeNumber_82 rfl ?_
      obtain ⟨hO_5, hw⟩ := hw
      refine cw_get (ci := 10) (v := .int (hz_i (z y0 5))) hx hb hts hin10 hown hK hP hO_5.1 hO_5.2 rfl 5 (by decide) (hts (.fieldLink RX10 28 "HiddenMoves$Words" "behind" "I") (List.mem_cons_of_mem _ (List.mem_append_left _ (List.mem_of_getElem? (i := 1) rfl)))) (fun _ h9 => h9) rfl dX10_takeNumber_83 ?_
      refine lv_iconst (v := hz_i 1) hx hb dX10_takeNumber_86 (by decide +kernel) ?_
      refine hz_iadd hx hb dX10_takeNumber_87 ?_
      refine cw_putz (ci := 10) (ty := .int) (v := .int (hz_i ((z y0 5) + 1))) (x := (z y0 5) + 1) hx hb hts hin10 tyX10 tyX10_ok nmX10 hown hK hP hD hS hO_5.1 hO_5.2 rfl 5 (by decide) (hts (.fieldLink RX10 28 "HiddenMoves$Words" "behind" "I") (List.mem_cons_of_mem _ (List.mem_append_left _ (List.mem_of_getElem? (i := 1) rfl)))) (fun _ h9 => h9) rfl (by decide +kernel) rfl rfl (Nat.le_of_ble_eq_true rfl) (cw_z10_5 _ _ _) dX10_takeNumber_88 (fun H locs hP hD hS => ?_)
      obtain ⟨z_6, hz_6⟩ : ∃ y : Nat → Nat → Int, y = cw_s z y0 5 ((z y0 5) + 1) := ⟨_, rfl⟩
      rw [← hz_6] at hP hD
      have hw := hw z_6 hz_6
      refine lv_goto (tgt := 5) hx hb dX10_takeNumber_91 (by decide) ?_
      exact (hP5 z_6).mp hw H locs ls hP hD hS (lv_sub hl [0] rfl)
    refine lv_aload_n hx hb dX10_takeNumber_5 rfl (lv_at hl 0 rfl) ?_
    obtain ⟨hO_7, hw⟩ := hw
    refine cw_get (ci := 10) (v := .int (hz_i (z y0 5))) hx hb hts hin10 hown hK hP hO_7.1 hO_7.2 rfl 5 (by decide) (hts (.fieldLink RX10 28 "HiddenMoves$Words" "behind" "I") (List.mem_cons_of_mem _ (List.mem_append_left _ (List.mem_of_getElem? (i := 1) rfl)))) (fun _ h9 => h9) rfl dX10_takeNumber_6 ?_
    refine lv_aload_n hx hb dX10_takeNumber_9 rfl (lv_at hl 0 rfl) ?_
    refine cw_get (ci := 10) (v := .int (hz_i (z y0 1))) hx hb hts hin10 hown hK hP hO_7.1 hO_7.2 rfl 1 (by decide) (hts (.fieldLink RX10 15 "HiddenMoves$Words" "length" "I") (List.mem_cons_of_mem _ (List.mem_append_left _ (List.mem_of_getElem? (i := 2) rfl)))) (fun _ h9 => h9) rfl dX10_takeNumber_10 ?_
    obtain ⟨h9a, hw⟩ := hw
    obtain ⟨h9b, hw⟩ := hw
    refine hz_icmp_ge (tgt := 94) hx hb dX10_takeNumber_13 (by decide) h9a h9b (fun c_8 => ?_) (fun c_8 => ?_)
    · have hw := hw.1 c_8
      exact L94 z hw H locs ls hP hD hS (lv_sub hl [0] rfl)
    · have hw := hw.2 c_8
      refine lv_aload_n hx hb dX10_takeNumber_16 rfl (lv_at hl 0 rfl) ?_
      refine cw_get (ci := 10) (v := .ref (r y0 0)) hx hb hts hin10 hown hK hP hO_7.1 hO_7.2 rfl 0 (by decide) (hts (.fieldLink RX10 9 "HiddenMoves$Words" "characters" "[C") (List.mem_cons_of_mem _ (List.mem_append_left _ (List.mem_of_getElem? (i := 3) rfl)))) (fun _ h9 => h9) rfl dX10_takeNumber_17 ?_
      refine lv_aload_n hx hb dX10_takeNumber_20 rfl (lv_at hl 0 rfl) ?_
      refine cw_get (ci := 10) (v := .int (hz_i (z y0 5))) hx hb hts hin10 hown hK hP hO_7.1 hO_7.2 rfl 5 (by decide) (hts (.fieldLink RX10 28 "HiddenMoves$Words" "behind" "I") (List.mem_cons_of_mem _ (List.mem_append_left _ (List.mem_of_getElem? (i := 1) rfl)))) (fun _ h9 => h9) rfl dX10_takeNumber_21 ?_
      obtain ⟨hO_9, hw⟩ := hw
      obtain ⟨h9i, hw⟩ := hw
      refine cw_cld hx hb hK hP hO_9.1 hO_9.2.2 h9i hO_9.2.1 dX10_takeNumber_24 ?_
      refine lv_bipush (v := hz_i 48) hx hb dX10_takeNumber_25 (by decide +kernel) ?_
      obtain ⟨h9a, hw⟩ := hw
      refine hz_icmp_lt (tgt := 94) hx hb dX10_takeNumber_27 (by decide) h9a ⟨by decide, by decide⟩ (fun c_10 => ?_) (fun c_10 => ?_)
      · have hw := hw.1 c_10
        exact L94 z hw H locs ls hP hD hS (lv_sub hl [0] rfl)
      · have hw := hw.2 c_10
        refine lv_aload_n hx hb dX10_takeNumber_30 rfl (lv_at hl 0 rfl) ?_
        refine cw_get (ci := 10) (v := .ref (r y0 0)) hx hb hts hin10 hown hK hP hO_7.1 hO_7.2 rfl 0 (by decide) (hts (.fieldLink RX10 9 "HiddenMoves$Words" "characters" "[C") (List.mem_cons_of_mem _ (List.mem_append_left _ (List.mem_of_getElem? (i := 3) rfl)))) (fun _ h9 => h9) rfl dX10_takeNumber_31 ?_
        refine lv_aload_n hx hb dX10_takeNumber_34 rfl (lv_at hl 0 rfl) ?_
        refine cw_get (ci := 10) (v := .int (hz_i (z y0 5))) hx hb hts hin10 hown hK hP hO_7.1 hO_7.2 rfl 5 (by decide) (hts (.fieldLink RX10 28 "HiddenMoves$Words" "behind" "I") (List.mem_cons_of_mem _ (List.mem_append_left _ (List.mem_of_getElem? (i := 1) rfl)))) (fun _ h9 => h9) rfl dX10_takeNumber_35 ?_
        obtain ⟨h9i, hw⟩ := hw
        refine cw_cld hx hb hK hP hO_9.1 hO_9.2.2 h9i hO_9.2.1 dX10_takeNumber_38 ?_
        refine lv_bipush (v := hz_i 57) hx hb dX10_takeNumber_39 (by decide +kernel) ?_
        obtain ⟨h9a, hw⟩ := hw
        refine hz_icmp_gt (tgt := 94) hx hb dX10_takeNumber_41 (by decide) h9a ⟨by decide, by decide⟩ (fun c_11 => ?_) (fun c_11 => ?_)
        · have hw := hw.1 c_11
          exact L94 z hw H locs ls hP hD hS (lv_sub hl [0] rfl)
        · have hw := hw.2 c_11
          refine lv_aload_n hx hb dX10_takeNumber_44 rfl (lv_at hl 0 rfl) ?_
          refine cw_get (ci := 10) (v := .int (hz_i (z y0 5))) hx hb hts hin10 hown hK hP hO_7.1 hO_7.2 rfl 5 (by decide) (hts (.fieldLink RX10 28 "HiddenMoves$Words" "behind" "I") (List.mem_cons_of_mem _ (List.mem_append_left _ (List.mem_of_getElem? (i := 1) rfl)))) (fun _ h9 => h9) rfl dX10_takeNumber_45 ?_
          refine lv_aload_n hx hb dX10_takeNumber_48 rfl (lv_at hl 0 rfl) ?_
          refine cw_get (ci := 10) (v := .int (hz_i (z y0 3))) hx hb hts hin10 hown hK hP hO_7.1 hO_7.2 rfl 3 (by decide) (hts (.fieldLink RX10 22 "HiddenMoves$Words" "begin" "I") (List.mem_cons_of_mem _ (List.mem_append_left _ (List.mem_of_getElem? (i := 4) rfl)))) (fun _ h9 => h9) rfl dX10_takeNumber_49 ?_
          refine hz_isub hx hb dX10_takeNumber_52 ?_
          refine lv_iconst (v := hz_i 4) hx hb dX10_takeNumber_53 (by decide +kernel) ?_
          obtain ⟨h9a, hw⟩ := hw
          refine hz_icmp_ge (tgt := 81) hx hb dX10_takeNumber_54 (by decide) h9a ⟨by decide, by decide⟩ (fun c_12 => ?_) (fun c_12 => ?_)
          · have hw := hw.1 c_12
            exact L81 z hw H locs ls hP hD hS (lv_sub hl [0] rfl)
          · have hw := hw.2 c_12
            refine lv_aload_n hx hb dX10_takeNumber_57 rfl (lv_at hl 0 rfl) ?_
            refine lv_bipush (v := hz_i 10) hx hb dX10_takeNumber_58 (by decide +kernel) ?_
            refine lv_aload_n hx hb dX10_takeNumber_60 rfl (lv_at hl 0 rfl) ?_
            refine cw_get (ci := 10) (v := .int (hz_i (z y0 4))) hx hb hts hin10 hown hK hP hO_7.1 hO_7.2 rfl 4 (by decide) (hts (.fieldLink RX10 25 "HiddenMoves$Words" "value" "I") (List.mem_cons_of_mem _ (List.mem_append_left _ (List.mem_of_getElem? (i := 0) rfl)))) (fun _ h9 => h9) rfl dX10_takeNumber_61 ?_
            refine hz_imul hx hb dX10_takeNumber_64 ?_
            refine lv_aload_n hx hb dX10_takeNumber_65 rfl (lv_at hl 0 rfl) ?_
            refine cw_get (ci := 10) (v := .ref (r y0 0)) hx hb hts hin10 hown hK hP hO_7.1 hO_7.2 rfl 0 (by decide) (hts (.fieldLink RX10 9 "HiddenMoves$Words" "characters" "[C") (List.mem_cons_of_mem _ (List.mem_append_left _ (List.mem_of_getElem? (i := 3) rfl)))) (fun _ h9 => h9) rfl dX10_takeNumber_66 ?_
            refine lv_aload_n hx hb dX10_takeNumber_69 rfl (lv_at hl 0 rfl) ?_
            refine cw_get (ci := 10) (v := .int (hz_i (z y0 5))) hx hb hts hin10 hown hK hP hO_7.1 hO_7.2 rfl 5 (by decide) (hts (.fieldLink RX10 28 "HiddenMoves$Words" "behind" "I") (List.mem_cons_of_mem _ (List.mem_append_left _ (List.mem_of_getElem? (i := 1) rfl)))) (fun _ h9 => h9) rfl dX10_takeNumber_70 ?_
            obtain ⟨h9i, hw⟩ := hw
            refine cw_cld hx hb hK hP hO_9.1 hO_9.2.2 h9i hO_9.2.1 dX10_takeNumber_73 ?_
            refine hz_iadd hx hb dX10_takeNumber_74 ?_
            refine lv_bipush (v := hz_i 48) hx hb dX10_takeNumber_75 (by decide +kernel) ?_
            refine hz_isub hx hb dX10_takeNumber_77 ?_
            refine cw_nri (fun x9_13 hx9_13a hx9_13b => ?_)
            have hw := hw x9_13 hx9_13a hx9_13b
            refine cw_putz (ci := 10) (ty := .int) (v := .int (hz_i x9_13)) (x := x9_13) hx hb hts hin10 tyX10 tyX10_ok nmX10 hown hK hP hD hS hO_7.1 hO_7.2 rfl 4 (by decide) (hts (.fieldLink RX10 25 "HiddenMoves$Words" "value" "I") (List.mem_cons_of_mem _ (List.mem_append_left _ (List.mem_of_getElem? (i := 0) rfl)))) (fun _ h9 => h9) rfl (by decide +kernel) rfl rfl (Nat.le_of_ble_eq_true rfl) (cw_z10_4 _ _ _) dX10_takeNumber_78 (fun H locs hP hD hS => ?_)
            obtain ⟨z_14, hz_14⟩ : ∃ y : Nat → Nat → Int, y = cw_s z y0 4 x9_13 := ⟨_, rfl⟩
            rw [← hz_14] at hP hD
            have hw := hw z_14 hz_14
            exact L81 z_14 hw H locs ls hP hD hS (lv_sub hl [0] rfl)
  have hP := hP0; have hD := hD0; have hS := hS0; have hl := hl0; have hw := hw0
  obtain ⟨H, hH⟩ : ∃ H : Heap, H = s.heap := ⟨_, rfl⟩
  obtain ⟨locs, hlocs⟩ : ∃ L : List Loc, L = [] := ⟨_, rfl⟩
  rw [← hH] at hP
  have hS : va_S Ad s.heap H locs := by rw [hH, hlocs]; exact hS
  refine mw_HL hH hlocs ?_
  refine lv_aload_n hx hb dX10_takeNumber_0 rfl (lv_at hl 0 rfl) ?_
  refine lv_iconst (v := hz_i 0) hx hb dX10_takeNumber_1 (by decide +kernel) ?_
  obtain ⟨hO_15, hw⟩ := hw
  refine cw_putz (ci := 10) (ty := .int) (v := .int (hz_i 0)) (x := 0) hx hb hts hin10 tyX10 tyX10_ok nmX10 hown hK hP hD hS hO_15.1 hO_15.2 rfl 4 (by decide) (hts (.fieldLink RX10 25 "HiddenMoves$Words" "value" "I") (List.mem_cons_of_mem _ (List.mem_append_left _ (List.mem_of_getElem? (i := 0) rfl)))) (fun _ h9 => h9) rfl (by decide +kernel) rfl rfl (Nat.le_of_ble_eq_true rfl) (cw_z10_4 _ _ _) dX10_takeNumber_2 (fun H locs hP hD hS => ?_)
  obtain ⟨z_16, hz_16⟩ : ∃ y : Nat → Nat → Int, y = cw_s z y0 4 0 := ⟨_, rfl⟩
  rw [← hz_16] at hP hD
  have hw := hw z_16 hz_16
  exact L5 z_16 hw H locs ls hP hD hS (lv_sub hl [0] rfl)

noncomputable def wp_c10_isWord_100 (L : List Nat) (K : Nat → cw_K) (z : Nat → Nat → Int) (r : Nat → Nat → Nat) (A : Nat → Nat → Int) (Q : Int → Prop) : Prop := Q 1
noncomputable def wp_c10_isWord (L : List Nat) (K : Nat → cw_K) (z : Nat → Nat → Int) (r : Nat → Nat → Nat) (A : Nat → Nat → Int) (y0 : Int) (Q : Int → Prop) : Prop := hz_rI y0 ∧ ((y0 = 40 → wp_c10_isWord_100 L K z r A  Q) ∧ (¬ y0 = 40 → ((y0 = 41 → wp_c10_isWord_100 L K z r A  Q) ∧ (¬ y0 = 41 → ((y0 = 44 → wp_c10_isWord_100 L K z r A  Q) ∧ (¬ y0 = 44 → ((y0 = 45 → wp_c10_isWord_100 L K z r A  Q) ∧ (¬ y0 = 45 → ((y0 = 47 → wp_c10_isWord_100 L K z r A  Q) ∧ (¬ y0 = 47 → ((y0 = 58 → wp_c10_isWord_100 L K z r A  Q) ∧ (¬ y0 = 58 → ((y0 = 63 → wp_c10_isWord_100 L K z r A  Q) ∧ (¬ y0 = 63 → ((y0 = 65 → wp_c10_isWord_100 L K z r A  Q) ∧ (¬ y0 = 65 → ((y0 = 66 → wp_c10_isWord_100 L K z r A  Q) ∧ (¬ y0 = 66 → ((y0 = 91 → wp_c10_isWord_100 L K z r A  Q) ∧ (¬ y0 = 91 → ((y0 = 93 → wp_c10_isWord_100 L K z r A  Q) ∧ (¬ y0 = 93 → Q 0))))))))))))))))))))))
set_option maxHeartbeats 4000000 in
set_option maxRecDepth 100000 in
theorem k_c10_isWord (l : Launch) (D : va_G) (sz : Nat) (C : Nat → ClassId) (L : List Nat) (K : Nat → cw_K) (z : Nat → Nat → Int) (r : Nat → Nat → Nat) (A : Nat → Nat → Int) (y0 : Int) (Q : Int → Prop) (hw : wp_c10_isWord L K z r A y0 Q) : Met l yX10_isWord wsX10_isWord ({ frames := 0, cells := 0, slots := 0, locals := 0 } : Room) (va_Pc [.int (hz_i y0)] (hm_P D (cw_w C L K z r A) (cw_t C) sz)) (va_Qi (S := Int × (Nat → Nat → Int) × (Nat → Nat → Nat) × (Nat → Nat → Int)) (fun r u => r = hz_i u.1 ∧ Q u.1) (fun u t => hm_B D (va_A (cw_w C L K z r A) sz) (cw_w C L K z r A) (cw_t C) t) (va_A (cw_w C L K z r A) sz)) 0 0 (va_A (cw_w C L K z r A) sz) := by
  refine Met.ofW (cc := cX10_isWord) (maxL := 1) (ret := (some .boolean)) (by decide) rfl ?_
  intro p e s m args below meth c s₁ B hml hv
  obtain ⟨rfl, hsz, hP, hK, hD0, hE⟩ := hv
  have hx := B.exec
  have hb := B.bytes
  have hr := B.returns
  have hts := atoms_spec (ws := wsX10_isWord) B.pre
  have hown : s.vm.findClass RX10 = some m.cls := findClass_of_methodNamed B.named
  have hlocks := B.notSynchronized
  subst hsz
  have hD := hD0.self (sz := s.heap.size)
  generalize hAe : va_A (cw_w C L K z r A) s.heap.size = Ad at hD ⊢
  have hA : ∀ q : Nat, s.heap.size ≤ q → Ad q := fun q h => by rw [← hAe]; exact Or.inr h
  have hS : va_S Ad s.heap s.heap [] := va_S.rf
  have hl := lv_entry ([.int (hz_i y0)]) (n := 1) (Nat.le_of_ble_eq_true rfl)
  rw [lg_entry_eq]
  generalize (lg_sl ([.int (hz_i y0)]) ++ List.replicate (1 - (lg_sl ([.int (hz_i y0)])).length) Slot.unset).toArray = ls at hl ⊢
  have hl : lv_has ls 1 [(0, .int (hz_i y0))] := hl
  refine mw_Q (fun QQ hQQ => ?_)
  have hP0 := hP; have hD0 := hD; have hS0 := hS; have hl0 := hl; have hw0 := hw
  clear hP hD hS hl hw
  have L100 : wp_c10_isWord_100 L K z r A  Q → ∀ (H : Heap) (locs : List Loc) (ls : Array Slot), va_P D vwCl (cw_w C L K z r A) H → va_D Ad (cw_w C L K z r A) → va_S Ad s.heap H locs → lv_has ls 1 [] → W p l e (headSpec wsX10_isWord ({ frames := 0, cells := 0, slots := 0, locals := 0 } : Room)).room s m (List.toArray [.int (hz_i y0)]) below meth c H locs 0 0 QQ (F0 m 100 ls []) := by
    intro  hw H locs ls hP hD hS hl
    refine lv_iconst (v := hz_i 1) hx hb dX10_isWord_100 (by decide +kernel) ?_
    subst hQQ
    subst hAe
    exact W.zret (v := hz_i 1) hx hb hr (hz_tZ (by decide)) (fun t ht hW => ⟨⟨hz_i 1, (1, z, r, A), rfl, ⟨rfl, hw⟩, by rw [ht]; exact hP, va_K.moved hW.alike hK, hD⟩, hS.F ht⟩) hS.2.2 dX10_isWord_101
  have hP := hP0; have hD := hD0; have hS := hS0; have hl := hl0; have hw := hw0
  obtain ⟨H, hH⟩ : ∃ H : Heap, H = s.heap := ⟨_, rfl⟩
  obtain ⟨locs, hlocs⟩ : ∃ L : List Loc, L = [] := ⟨_, rfl⟩
  rw [← hH] at hP
  have hS : va_S Ad s.heap H locs := by rw [hH, hlocs]; exact hS
  refine mw_HL hH hlocs ?_
  refine lv_iload_n hx hb dX10_isWord_0 rfl (lv_at hl 0 rfl) ?_
  obtain ⟨h9a, hw⟩ := hw
  by_cases h9c : y0 = 40
  · have hw := hw.1 h9c
    refine lv_lookup (tgt := 100) (off := 99) hx hb dX10_isWord_1 (by decide +kernel) (by rw [hz_i_toInt h9a, h9c]; decide +kernel) (by decide) ?_
    exact L100  hw H locs ls hP hD hS (lv_sub hl [] rfl)
  have hw := hw.2 h9c
  have h9c_1 := h9c
  by_cases h9c : y0 = 41
  · have hw := hw.1 h9c
    refine lv_lookup (tgt := 100) (off := 99) hx hb dX10_isWord_1 (by decide +kernel) (by rw [hz_i_toInt h9a, h9c]; decide +kernel) (by decide) ?_
    exact L100  hw H locs ls hP hD hS (lv_sub hl [] rfl)
  have hw := hw.2 h9c
  have h9c_2 := h9c
  by_cases h9c : y0 = 44
  · have hw := hw.1 h9c
    refine lv_lookup (tgt := 100) (off := 99) hx hb dX10_isWord_1 (by decide +kernel) (by rw [hz_i_toInt h9a, h9c]; decide +kernel) (by decide) ?_
    exact L100  hw H locs ls hP hD hS (lv_sub hl [] rfl)
  have hw := hw.2 h9c
  have h9c_3 := h9c
  by_cases h9c : y0 = 45
  · have hw := hw.1 h9c
    refine lv_lookup (tgt := 100) (off := 99) hx hb dX10_isWord_1 (by decide +kernel) (by rw [hz_i_toInt h9a, h9c]; decide +kernel) (by decide) ?_
    exact L100  hw H locs ls hP hD hS (lv_sub hl [] rfl)
  have hw := hw.2 h9c
  have h9c_4 := h9c
  by_cases h9c : y0 = 47
  · have hw := hw.1 h9c
    refine lv_lookup (tgt := 100) (off := 99) hx hb dX10_isWord_1 (by decide +kernel) (by rw [hz_i_toInt h9a, h9c]; decide +kernel) (by decide) ?_
    exact L100  hw H locs ls hP hD hS (lv_sub hl [] rfl)
  have hw := hw.2 h9c
  have h9c_5 := h9c
  by_cases h9c : y0 = 58
  · have hw := hw.1 h9c
    refine lv_lookup (tgt := 100) (off := 99) hx hb dX10_isWord_1 (by decide +kernel) (by rw [hz_i_toInt h9a, h9c]; decide +kernel) (by decide) ?_
    exact L100  hw H locs ls hP hD hS (lv_sub hl [] rfl)
  have hw := hw.2 h9c
  have h9c_6 := h9c
  by_cases h9c : y0 = 63
  · have hw := hw.1 h9c
    refine lv_lookup (tgt := 100) (off := 99) hx hb dX10_isWord_1 (by decide +kernel) (by rw [hz_i_toInt h9a, h9c]; decide +kernel) (by decide) ?_
    exact L100  hw H locs ls hP hD hS (lv_sub hl [] rfl)
  have hw := hw.2 h9c
  have h9c_7 := h9c
  by_cases h9c : y0 = 65
  · have hw := hw.1 h9c
    refine lv_lookup (tgt := 100) (off := 99) hx hb dX10_isWord_1 (by decide +kernel) (by rw [hz_i_toInt h9a, h9c]; decide +kernel) (by decide) ?_
    exact L100  hw H locs ls hP hD hS (lv_sub hl [] rfl)
  have hw := hw.2 h9c
  have h9c_8 := h9c
  by_cases h9c : y0 = 66
  · have hw := hw.1 h9c
    refine lv_lookup (tgt := 100) (off := 99) hx hb dX10_isWord_1 (by decide +kernel) (by rw [hz_i_toInt h9a, h9c]; decide +kernel) (by decide) ?_
    exact L100  hw H locs ls hP hD hS (lv_sub hl [] rfl)
  have hw := hw.2 h9c
  have h9c_9 := h9c
  by_cases h9c : y0 = 91
  · have hw := hw.1 h9c
    refine lv_lookup (tgt := 100) (off := 99) hx hb dX10_isWord_1 (by decide +kernel) (by rw [hz_i_toInt h9a, h9c]; decide +kernel) (by decide) ?_
    exact L100  hw H locs ls hP hD hS (lv_sub hl [] rfl)
  have hw := hw.2 h9c
  have h9c_10 := h9c
  by_cases h9c : y0 = 93
  · have hw := hw.1 h9c
    refine lv_lookup (tgt := 100) (off := 99) hx hb dX10_isWord_1 (by decide +kernel) (by rw [hz_i_toInt h9a, h9c]; decide +kernel) (by decide) ?_
    exact L100  hw H locs ls hP hD hS (lv_sub hl [] rfl)
  have hw := hw.2 h9c
  have h9c_11 := h9c
  refine lv_lookup (tgt := 102) (off := 101) hx hb dX10_isWord_1 (by decide +kernel) (by rw [hz_i_toInt h9a]; show Op.lookupswitch.offset [(40, 99), (41, 99), (44, 99), (45, 99), (47, 99), (58, 99), (63, 99), (65, 99), (66, 99), (91, 99), (93, 99)] (101) y0 = 101; simp only [Op.lookupswitch.offset_cons, Op.lookupswitch.offset_nil]; rw [if_neg (Ne.symm h9c_1), if_neg (Ne.symm h9c_2), if_neg (Ne.symm h9c_3), if_neg (Ne.symm h9c_4), if_neg (Ne.symm h9c_5), if_neg (Ne.symm h9c_6), if_neg (Ne.symm h9c_7), if_neg (Ne.symm h9c_8), if_neg (Ne.symm h9c_9), if_neg (Ne.symm h9c_10), if_neg (Ne.symm h9c_11)]) (by decide) ?_
  refine lv_iconst (v := hz_i 0) hx hb dX10_isWord_102 (by decide +kernel) ?_
  subst hQQ
  subst hAe
  exact W.zret (v := hz_i 0) hx hb hr (hz_tZ (by decide)) (fun t ht hW => ⟨⟨hz_i 0, (0, z, r, A), rfl, ⟨rfl, hw⟩, by rw [ht]; exact hP, va_K.moved hW.alike hK, hD⟩, hS.F ht⟩) hS.2.2 dX10_isWord_103

noncomputable def wp_c10_advance_120 (L : List Nat) (K : Nat → cw_K) (z : Nat → Nat → Int) (r : Nat → Nat → Nat) (A : Nat → Nat → Int) (Q : (Nat → Nat → Int) → Prop) : Prop := Q z
noncomputable def wp_c10_advance_107 (L : List Nat) (K : Nat → cw_K) (z : Nat → Nat → Int) (r : Nat → Nat → Nat) (A : Nat → Nat → Int) (y0 : Nat) (t0 : Int) (t1 : Nat) (Q : (Nat → Nat → Int) → Prop) : Prop := cw_O L K 10 t1 ∧ ∀ z_2 : Nat → Nat → Int, z_2 = cw_s z t1 2 t0 → cw_O L K 10 y0 ∧ ∀ z_4 : Nat → Nat → Int, z_4 = cw_s z_2 y0 5 ((z_2 y0 5) + 1) → wp_c10_advance_120 L K z_4 r A  Q
noncomputable def wp_c10_advance_38 (L : List Nat) (K : Nat → cw_K) (z : Nat → Nat → Int) (r : Nat → Nat → Nat) (A : Nat → Nat → Int) (y0 : Nat) (Q : (Nat → Nat → Int) → Prop) : Prop := cw_O L K 10 y0 ∧ ∀ z_6 : Nat → Nat → Int, z_6 = cw_s z y0 3 (z y0 5) → hz_rI (z_6 y0 5) ∧ hz_rI (z_6 y0 1) ∧ ((z_6 y0 5 < z_6 y0 1 → wp_c10_takeNumber L K z_6 r A y0 (fun z_9 => hz_rI (z_9 y0 5) ∧ hz_rI (z_9 y0 3) ∧ ((¬ z_9 y0 5 = z_9 y0 3 → wp_c10_advance_120 L K z_9 r A  Q) ∧ (z_9 y0 5 = z_9 y0 3 → cw_A L K 2 (r y0 0) ∧ ((0 : Int) ≤ z_9 y0 5 ∧ z_9 y0 5 < (cw_n K (r y0 0) : Int)) ∧ wp_c10_isWord L K z_9 r A (A (r y0 0) ((z_9 y0 5).toNat)) (fun rv_12 => hz_rI rv_12 ∧ ((rv_12 = 0 → wp_c10_advance_107 L K z_9 r A y0 1 y0  Q) ∧ (¬ (rv_12 = 0) → ((0 : Int) ≤ z_9 y0 5 ∧ z_9 y0 5 < (cw_n K (r y0 0) : Int)) ∧ wp_c10_advance_107 L K z_9 r A y0 (A (r y0 0) ((z_9 y0 5).toNat)) y0  Q))))))) ∧ (¬ (z_6 y0 5 < z_6 y0 1) → ∀ z_14 : Nat → Nat → Int, z_14 = cw_s z_6 y0 2 0 → Q z_14))
noncomputable def wp_c10_advance_0 (L : List Nat) (K : Nat → cw_K) (z : Nat → Nat → Int) (r : Nat → Nat → Nat) (A : Nat → Nat → Int) (y0 : Nat) (Q : (Nat → Nat → Int) → Prop) : Prop := ∀ P0 : (Nat → Nat → Int) → Prop, (∀ (z : Nat → Nat → Int), cw_O L K 10 y0 ∧ hz_rI (z y0 5) ∧ hz_rI (z y0 1) ∧ ((z y0 1 ≤ z y0 5 → wp_c10_advance_38 L K z r A y0  Q) ∧ (¬ (z y0 1 ≤ z y0 5) → cw_A L K 2 (r y0 0) ∧ ((0 : Int) ≤ z y0 5 ∧ z y0 5 < (cw_n K (r y0 0) : Int)) ∧ hz_rI (A (r y0 0) ((z y0 5).toNat)) ∧ ((¬ A (r y0 0) ((z y0 5).toNat) = 32 → wp_c10_advance_38 L K z r A y0  Q) ∧ (A (r y0 0) ((z y0 5).toNat) = 32 → ∀ z_19 : Nat → Nat → Int, z_19 = cw_s z y0 5 ((z y0 5) + 1) → P0 z_19)))) → P0 z) → P0 z
noncomputable def wp_c10_advance (L : List Nat) (K : Nat → cw_K) (z : Nat → Nat → Int) (r : Nat → Nat → Nat) (A : Nat → Nat → Int) (y0 : Nat) (Q : (Nat → Nat → Int) → Prop) : Prop := wp_c10_advance_0 L K z r A y0  Q
set_option maxHeartbeats 4000000 in
set_option maxRecDepth 100000 in
theorem k_c10_advance (l : Launch) (D : va_G) (sz : Nat) (C : Nat → ClassId) (L : List Nat) (K : Nat → cw_K) (z : Nat → Nat → Int) (r : Nat → Nat → Nat) (A : Nat → Nat → Int) (y0 : Nat) (Q : (Nat → Nat → Int) → Prop) (hw : wp_c10_advance L K z r A y0 Q) : Met l yX10_advance wsX10_advance ({ frames := 1, cells := 0, slots := 0, locals := 20 } : Room) (va_Pc [.ref y0] (hm_P D (cw_w C L K z r A) (cw_t C) sz)) (va_Qv (S := Int × (Nat → Nat → Int) × (Nat → Nat → Nat) × (Nat → Nat → Int)) (fun u => Q u.2.1) (fun u t => hm_B D (va_A (cw_w C L K z r A) sz) (cw_w C L K u.2.1 r A) (cw_t C) t) (va_A (cw_w C L K z r A) sz)) 0 0 (va_A (cw_w C L K z r A) sz) := by
  refine Met.ofW (cc := cX10_advance) (maxL := 1) (ret := none) (by decide) rfl ?_
  intro p e s m args below meth c s₁ B hml hv
  obtain ⟨rfl, hsz, hP, hK, hD0, hE⟩ := hv
  have hx := B.exec
  have hb := B.bytes
  have hr := B.returns
  have hts := atoms_spec (ws := wsX10_advance) B.pre
  have hown : s.vm.findClass RX10 = some m.cls := findClass_of_methodNamed B.named
  have hlocks := B.notSynchronized
  have hin10 : ∀ w ∈ u_ws RX10 TX10 6, w ∈ wsX10_advance := fun w h => List.mem_cons_of_mem _ (List.mem_append_right _ (h))
  subst hsz
  have hD := hD0.self (sz := s.heap.size)
  generalize hAe : va_A (cw_w C L K z r A) s.heap.size = Ad at hD ⊢
  have hA : ∀ q : Nat, s.heap.size ≤ q → Ad q := fun q h => by rw [← hAe]; exact Or.inr h
  have hS : va_S Ad s.heap s.heap [] := va_S.rf
  have hl := lv_entry ([.ref y0]) (n := 1) (Nat.le_of_ble_eq_true rfl)
  rw [lg_entry_eq]
  generalize (lg_sl ([.ref y0]) ++ List.replicate (1 - (lg_sl ([.ref y0])).length) Slot.unset).toArray = ls at hl ⊢
  have hl : lv_has ls 1 [(0, .ref y0)] := hl
  refine mw_Q (fun QQ hQQ => ?_)
  have hP0 := hP; have hD0 := hD; have hS0 := hS; have hl0 := hl; have hw0 := hw
  clear hP hD hS hl hw
  have L120 : ∀ (z : Nat → Nat → Int), wp_c10_advance_120 L K z r A  Q → ∀ (H : Heap) (locs : List Loc) (ls : Array Slot), va_P D vwCl (cw_w C L K z r A) H → va_D Ad (cw_w C L K z r A) → va_S Ad s.heap H locs → lv_has ls 1 [] → W p l e (headSpec wsX10_advance ({ frames := 1, cells := 0, slots := 0, locals := 20 } : Room)).room s m (List.toArray [.ref y0]) below meth c H locs 0 0 QQ (F0 m 120 ls []) := by
    intro z hw H locs ls hP hD hS hl
    subst hQQ
    subst hAe
    exact W.vret hx hb hr (fun t ht hW => ⟨⟨(0, z, r, A), rfl, hw, by rw [ht]; exact hP, va_K.moved hW.alike hK, hD⟩, hS.F ht⟩) hS.2.2 dX10_advance_120
  have L107 : ∀ (z : Nat → Nat → Int) (t0 : Int) (t1 : Nat), wp_c10_advance_107 L K z r A y0 t0 t1  Q → ∀ (H : Heap) (locs : List Loc) (ls : Array Slot), va_P D vwCl (cw_w C L K z r A) H → va_D Ad (cw_w C L K z r A) → va_S Ad s.heap H locs → lv_has ls 1 [(0, .ref y0)] → W p l e (headSpec wsX10_advance ({ frames := 1, cells := 0, slots := 0, locals := 20 } : Room)).room s m (List.toArray [.ref y0]) below meth c H locs 0 0 QQ (F0 m 107 ls [.int (hz_i t0), .ref t1]) := by
    intro z t0 t1 hw H locs ls hP hD hS hl
    obtain ⟨hO_1, hw⟩ := hw
    refine cw_putz (ci := 10) (ty := .int) (v := .int (hz_i t0)) (x := t0) hx hb hts hin10 tyX10 tyX10_ok nmX10 hown hK hP hD hS hO_1.1 hO_1.2 rfl 2 (by decide) (hts (.fieldLink RX10 19 "HiddenMoves$Words" "kind" "I") (List.mem_cons_of_mem _ (List.mem_append_left _ (List.mem_of_getElem? (i := 4) rfl)))) (fun _ h9 => h9) rfl (by decide +kernel) rfl rfl (Nat.le_of_ble_eq_true rfl) (cw_z10_2 _ _ _) dX10_advance_107 (fun H locs hP hD hS => ?_)
    obtain ⟨z_2, hz_2⟩ : ∃ y : Nat → Nat → Int, y = cw_s z t1 2 t0 := ⟨_, rfl⟩
    rw [← hz_2] at hP hD
    have hw := hw z_2 hz_2
    refine lv_aload_n hx hb dX10_advance_110 rfl (lv_at hl 0 rfl) ?_
    refine lv_dup hx hb dX10_advance_111 rfl ?_
    obtain ⟨hO_3, hw⟩ := hw
    refine cw_get (ci := 10) (v := .int (hz_i (z_2 y0 5))) hx hb hts hin10 hown hK hP hO_3.1 hO_3.2 rfl 5 (by decide) (hts (.fieldLink RX10 28 "HiddenMoves$Words" "behind" "I") (List.mem_cons_of_mem _ (List.mem_append_left _ (List.mem_of_getElem? (i := 0) rfl)))) (fun _ h9 => h9) rfl dX10_advance_112 ?_
    refine lv_iconst (v := hz_i 1) hx hb dX10_advance_115 (by decide +kernel) ?_
    refine hz_iadd hx hb dX10_advance_116 ?_
    refine cw_putz (ci := 10) (ty := .int) (v := .int (hz_i ((z_2 y0 5) + 1))) (x := (z_2 y0 5) + 1) hx hb hts hin10 tyX10 tyX10_ok nmX10 hown hK hP hD hS hO_3.1 hO_3.2 rfl 5 (by decide) (hts (.fieldLink RX10 28 "HiddenMoves$Words" "behind" "I") (List.mem_cons_of_mem _ (List.mem_append_left _ (List.mem_of_getElem? (i := 0) rfl)))) (fun _ h9 => h9) rfl (by decide +kernel) rfl rfl (Nat.le_of_ble_eq_true rfl) (cw_z10_5 _ _ _) dX10_advance_117 (fun H locs hP hD hS => ?_)
    obtain ⟨z_4, hz_4⟩ : ∃ y : Nat → Nat → Int, y = cw_s z_2 y0 5 ((z_2 y0 5) + 1) := ⟨_, rfl⟩
    rw [← hz_4] at hP hD
    have hw := hw z_4 hz_4
    exact L120 z_4 hw H locs ls hP hD hS (lv_sub hl [] rfl)
  have L38 : ∀ (z : Nat → Nat → Int), wp_c10_advance_38 L K z r A y0  Q → ∀ (H : Heap) (locs : List Loc) (ls : Array Slot), va_P D vwCl (cw_w C L K z r A) H → va_D Ad (cw_w C L K z r A) → va_S Ad s.heap H locs → lv_has ls 1 [(0, .ref y0)] → W p l e (headSpec wsX10_advance ({ frames := 1, cells := 0, slots := 0, locals := 20 } : Room)).room s m (List.toArray [.ref y0]) below meth c H locs 0 0 QQ (F0 m 38 ls []) := by
    intro z hw H locs ls hP hD hS hl
    refine lv_aload_n hx hb dX10_advance_38 rfl (lv_at hl 0 rfl) ?_
    refine lv_aload_n hx hb dX10_advance_39 rfl (lv_at hl 0 rfl) ?_
    obtain ⟨hO_5, hw⟩ := hw
    refine cw_get (ci := 10) (v := .int (hz_i (z y0 5))) hx hb hts hin10 hown hK hP hO_5.1 hO_5.2 rfl 5 (by decide) (hts (.fieldLink RX10 28 "HiddenMoves$Words" "behind" "I") (List.mem_cons_of_mem _ (List.mem_append_left _ (List.mem_of_getElem? (i := 0) rfl)))) (fun _ h9 => h9) rfl dX10_advance_40 ?_
    refine cw_putz (ci := 10) (ty := .int) (v := .int (hz_i (z y0 5))) (x := z y0 5) hx hb hts hin10 tyX10 tyX10_ok nmX10 hown hK hP hD hS hO_5.1 hO_5.2 rfl 3 (by decide) (hts (.fieldLink RX10 22 "HiddenMoves$Words" "begin" "I") (List.mem_cons_of_mem _ (List.mem_append_left _ (List.mem_of_getElem? (i := 3) rfl)))) (fun _ h9 => h9) rfl (by decide +kernel) rfl rfl (Nat.le_of_ble_eq_true rfl) (cw_z10_3 _ _ _) dX10_advance_43 (fun H locs hP hD hS => ?_)
    obtain ⟨z_6, hz_6⟩ : ∃ y : Nat → Nat → Int, y = cw_s z y0 3 (z y0 5) := ⟨_, rfl⟩
    rw [← hz_6] at hP hD
    have hw := hw z_6 hz_6
    refine lv_aload_n hx hb dX10_advance_46 rfl (lv_at hl 0 rfl) ?_
    refine cw_get (ci := 10) (v := .int (hz_i (z_6 y0 5))) hx hb hts hin10 hown hK hP hO_5.1 hO_5.2 rfl 5 (by decide) (hts (.fieldLink RX10 28 "HiddenMoves$Words" "behind" "I") (List.mem_cons_of_mem _ (List.mem_append_left _ (List.mem_of_getElem? (i := 0) rfl)))) (fun _ h9 => h9) rfl dX10_advance_47 ?_
    refine lv_aload_n hx hb dX10_advance_50 rfl (lv_at hl 0 rfl) ?_
    refine cw_get (ci := 10) (v := .int (hz_i (z_6 y0 1))) hx hb hts hin10 hown hK hP hO_5.1 hO_5.2 rfl 1 (by decide) (hts (.fieldLink RX10 15 "HiddenMoves$Words" "length" "I") (List.mem_cons_of_mem _ (List.mem_append_left _ (List.mem_of_getElem? (i := 1) rfl)))) (fun _ h9 => h9) rfl dX10_advance_51 ?_
    obtain ⟨h9a, hw⟩ := hw
    obtain ⟨h9b, hw⟩ := hw
    refine hz_icmp_lt (tgt := 63) hx hb dX10_advance_54 (by decide) h9a h9b (fun c_7 => ?_) (fun c_7 => ?_)
    · have hw := hw.1 c_7
      refine lv_aload_n hx hb dX10_advance_63 rfl (lv_at hl 0 rfl) ?_
      have hFc := cw_free hD hS hA
      obtain ⟨q9, hq9⟩ := cw_at (C := C) (z := z_6) (r := r) (A := A) hO_5.1 hO_5.2
      refine va_callv (va_runV (As := []) (rest := []) ⟨hx, hb, hml, hown, hts⟩ (k_c10_takeNumber l D _ C L K z_6 r A y0 _ hw) (cwV 0 hts gX10_advance_X10_takeNumber rfl rfl rfl (by decide +kernel) ⟨Nat.le_of_ble_eq_true rfl, Nat.le_of_ble_eq_true rfl⟩) ⟨hm_blind, va_recv hK hP (ci := 10) (q0 := q9) rfl hq9, hm_pre hP hK hD hE⟩ rfl rfl hl.1 rfl (lv_room (Nat.le_of_ble_eq_true rfl)) dX10_advance_64 ⟨Nat.le_of_ble_eq_true rfl, Nat.le_of_ble_eq_true rfl⟩) hS (fun q _ h => hFc q h) hFc (fun u t H1 locs ht hvm hw hB hz1 hk1 hS => ?_)
      obtain ⟨rv_8, z_9, _, _⟩ := u
      obtain ⟨hP, hK1, hD1⟩ := hB
      rw [ht] at hP
      have hD := hD1.weaken (fun k q _ h => hFc q.1 h)
      have hP : va_P D vwCl (cw_w C L K z_9 r A) H1 := hP
      have hD : va_D Ad (cw_w C L K z_9 r A) := hD
      generalize H1 = H at hP hS ⊢
      refine W.eq (g2 := F0 m 67 ls []) rfl ?_
      refine lv_aload_n hx hb dX10_advance_67 rfl (lv_at hl 0 rfl) ?_
      refine cw_get (ci := 10) (v := .int (hz_i (z_9 y0 5))) hx hb hts hin10 hown hK hP hO_5.1 hO_5.2 rfl 5 (by decide) (hts (.fieldLink RX10 28 "HiddenMoves$Words" "behind" "I") (List.mem_cons_of_mem _ (List.mem_append_left _ (List.mem_of_getElem? (i := 0) rfl)))) (fun _ h9 => h9) rfl dX10_advance_68 ?_
      refine lv_aload_n hx hb dX10_advance_71 rfl (lv_at hl 0 rfl) ?_
      refine cw_get (ci := 10) (v := .int (hz_i (z_9 y0 3))) hx hb hts hin10 hown hK hP hO_5.1 hO_5.2 rfl 3 (by decide) (hts (.fieldLink RX10 22 "HiddenMoves$Words" "begin" "I") (List.mem_cons_of_mem _ (List.mem_append_left _ (List.mem_of_getElem? (i := 3) rfl)))) (fun _ h9 => h9) rfl dX10_advance_72 ?_
      obtain ⟨h9a, hw⟩ := hw
      obtain ⟨h9b, hw⟩ := hw
      refine hz_icmp_ne (tgt := 120) hx hb dX10_advance_75 (by decide) h9a h9b (fun c_10 => ?_) (fun c_10 => ?_)
      · have hw := hw.1 c_10
        exact L120 z_9 hw H locs ls hP hD hS (lv_sub hl [] rfl)
      · have hw := hw.2 c_10
        refine lv_aload_n hx hb dX10_advance_78 rfl (lv_at hl 0 rfl) ?_
        refine lv_aload_n hx hb dX10_advance_79 rfl (lv_at hl 0 rfl) ?_
        refine cw_get (ci := 10) (v := .ref (r y0 0)) hx hb hts hin10 hown hK hP hO_5.1 hO_5.2 rfl 0 (by decide) (hts (.fieldLink RX10 9 "HiddenMoves$Words" "characters" "[C") (List.mem_cons_of_mem _ (List.mem_append_left _ (List.mem_of_getElem? (i := 2) rfl)))) (fun _ h9 => h9) rfl dX10_advance_80 ?_
        refine lv_aload_n hx hb dX10_advance_83 rfl (lv_at hl 0 rfl) ?_
        refine cw_get (ci := 10) (v := .int (hz_i (z_9 y0 5))) hx hb hts hin10 hown hK hP hO_5.1 hO_5.2 rfl 5 (by decide) (hts (.fieldLink RX10 28 "HiddenMoves$Words" "behind" "I") (List.mem_cons_of_mem _ (List.mem_append_left _ (List.mem_of_getElem? (i := 0) rfl)))) (fun _ h9 => h9) rfl dX10_advance_84 ?_
        obtain ⟨hO_11, hw⟩ := hw
        obtain ⟨h9i, hw⟩ := hw
        refine cw_cld hx hb hK hP hO_11.1 hO_11.2.2 h9i hO_11.2.1 dX10_advance_87 ?_
        have hFc := cw_free hD hS hA
        refine va_calli (va_runS (As := [.int (hz_i (A (r y0 0) ((z_9 y0 5).toNat)))]) (rest := [.ref y0]) ⟨hx, hb, hml, hown, hts⟩ (k_c10_isWord l D _ C L K z_9 r A (A (r y0 0) ((z_9 y0 5).toNat)) _ hw) (va_cwS 1 hts gX10_advance_X10_isWord rfl rfl rfl (by decide +kernel) ⟨Nat.le_of_ble_eq_true rfl, Nat.le_of_ble_eq_true rfl⟩) ⟨hm_blind, hm_pre hP hK hD hE⟩ rfl rfl hl.1 rfl (lv_room (Nat.le_of_ble_eq_true rfl)) dX10_advance_88 ⟨Nat.le_of_ble_eq_true rfl, Nat.le_of_ble_eq_true rfl⟩) hS (fun q _ h => hFc q h) hFc (fun rv u t H1 locs ht hvm hw hB hz1 hk1 hS => ?_)
        obtain ⟨rv_12, _, _, _⟩ := u
        obtain ⟨hP, hK1, hD1⟩ := hB
        rw [ht] at hP
        obtain ⟨hrv, hw⟩ := hw
        subst hrv
        have hD := hD1.weaken (fun k q _ h => hFc q.1 h)
        have hP : va_P D vwCl (cw_w C L K z_9 r A) H1 := hP
        have hD : va_D Ad (cw_w C L K z_9 r A) := hD
        generalize H1 = H at hP hS ⊢
        refine W.eq (g2 := F0 m 91 ls [.int (hz_i rv_12), .ref y0]) rfl ?_
        obtain ⟨h9a, hw⟩ := hw
        refine hz_if_eq (tgt := 106) hx hb dX10_advance_91 (by decide) h9a (fun c_13 => ?_) (fun c_13 => ?_)
        · have hw := hw.1 c_13
          refine lv_iconst (v := hz_i 1) hx hb dX10_advance_106 (by decide +kernel) ?_
          exact L107 z_9 1 y0 hw H locs ls hP hD hS (lv_sub hl [0] rfl)
        · have hw := hw.2 c_13
          refine lv_aload_n hx hb dX10_advance_94 rfl (lv_at hl 0 rfl) ?_
          refine cw_get (ci := 10) (v := .ref (r y0 0)) hx hb hts hin10 hown hK hP hO_5.1 hO_5.2 rfl 0 (by decide) (hts (.fieldLink RX10 9 "HiddenMoves$Words" "characters" "[C") (List.mem_cons_of_mem _ (List.mem_append_left _ (List.mem_of_getElem? (i := 2) rfl)))) (fun _ h9 => h9) rfl dX10_advance_95 ?_
          refine lv_aload_n hx hb dX10_advance_98 rfl (lv_at hl 0 rfl) ?_
          refine cw_get (ci := 10) (v := .int (hz_i (z_9 y0 5))) hx hb hts hin10 hown hK hP hO_5.1 hO_5.2 rfl 5 (by decide) (hts (.fieldLink RX10 28 "HiddenMoves$Words" "behind" "I") (List.mem_cons_of_mem _ (List.mem_append_left _ (List.mem_of_getElem? (i := 0) rfl)))) (fun _ h9 => h9) rfl dX10_advance_99 ?_
          obtain ⟨h9i, hw⟩ := hw
          refine cw_cld hx hb hK hP hO_11.1 hO_11.2.2 h9i hO_11.2.1 dX10_advance_102 ?_
          refine lv_goto (tgt := 107) hx hb dX10_advance_103 (by decide) ?_
          exact L107 z_9 (A (r y0 0) ((z_9 y0 5).toNat)) y0 hw H locs ls hP hD hS (lv_sub hl [0] rfl)
    · have hw := hw.2 c_7
      refine lv_aload_n hx hb dX10_advance_57 rfl (lv_at hl 0 rfl) ?_
      refine lv_iconst (v := hz_i 0) hx hb dX10_advance_58 (by decide +kernel) ?_
      refine cw_putz (ci := 10) (ty := .int) (v := .int (hz_i 0)) (x := 0) hx hb hts hin10 tyX10 tyX10_ok nmX10 hown hK hP hD hS hO_5.1 hO_5.2 rfl 2 (by decide) (hts (.fieldLink RX10 19 "HiddenMoves$Words" "kind" "I") (List.mem_cons_of_mem _ (List.mem_append_left _ (List.mem_of_getElem? (i := 4) rfl)))) (fun _ h9 => h9) rfl (by decide +kernel) rfl rfl (Nat.le_of_ble_eq_true rfl) (cw_z10_2 _ _ _) dX10_advance_59 (fun H locs hP hD hS => ?_)
      obtain ⟨z_14, hz_14⟩ : ∃ y : Nat → Nat → Int, y = cw_s z_6 y0 2 0 := ⟨_, rfl⟩
      rw [← hz_14] at hP hD
      have hw := hw z_14 hz_14
      subst hQQ
      subst hAe
      exact W.vret hx hb hr (fun t ht hW => ⟨⟨(0, z_14, r, A), rfl, hw, by rw [ht]; exact hP, va_K.moved hW.alike hK, hD⟩, hS.F ht⟩) hS.2.2 dX10_advance_62
  have L0 : ∀ (z : Nat → Nat → Int), wp_c10_advance_0 L K z r A y0  Q → ∀ (H : Heap) (locs : List Loc) (ls : Array Slot), va_P D vwCl (cw_w C L K z r A) H → va_D Ad (cw_w C L K z r A) → va_S Ad s.heap H locs → lv_has ls 1 [(0, .ref y0)] → W p l e (headSpec wsX10_advance ({ frames := 1, cells := 0, slots := 0, locals := 20 } : Room)).room s m (List.toArray [.ref y0]) below meth c H locs 0 0 QQ (F0 m 0 ls []) := by
    intro z hw
    obtain ⟨P0, hP0⟩ : ∃ P : (Nat → Nat → Int) → Prop, ∀ (z : Nat → Nat → Int), P z ↔ (∀ (H : Heap) (locs : List Loc) (ls : Array Slot), va_P D vwCl (cw_w C L K z r A) H → va_D Ad (cw_w C L K z r A) → va_S Ad s.heap H locs → lv_has ls 1 [(0, .ref y0)] → W p l e (headSpec wsX10_advance ({ frames := 1, cells := 0, slots := 0, locals := 20 } : Room)).room s m (List.toArray [.ref y0]) below meth c H locs 0 0 QQ (F0 m 0 ls [])) := ⟨fun (z : Nat → Nat → Int) => ∀ (H : Heap) (locs : List Loc) (ls : Array Slot), va_P D vwCl (cw_w C L K z r A) H → va_D Ad (cw_w C L K z r A) → va_S Ad s.heap H locs → lv_has ls 1 [(0, .ref y0)] → W p l e (headSpec wsX10_advance ({ frames := 1, cells := 0, slots := 0, locals := 20 } : Room)).room s m (List.toArray [.ref y0]) below meth c H locs 0 0 QQ (F0 m 0 ls []), fun _ => Iff.rfl⟩
    refine (hP0 z).mp (hw P0 ?_)
    intro z hw
    refine (hP0 z).mpr ?_
    intro H locs ls hP hD hS hl
    refine lv_aload_n hx hb dX10_advance_0 rfl (lv_at hl 0 rfl) ?_
    obtain ⟨hO_15, hw⟩ := hw
    refine cw_get (ci := 10) (v := .int (hz_i (z y0 5))) hx hb hts hin10 hown hK hP hO_15.1 hO_15.2 rfl 5 (by decide) (hts (.fieldLink RX10 28 "HiddenMoves$Words" "behind" "I") (List.mem_cons_of_mem _ (List.mem_append_left _ (List.mem_of_getElem? (i := 0) rfl)))) (fun _ h9 => h9) rfl dX10_advance_1 ?_
    refine lv_aload_n hx hb dX10_advance_4 rfl (lv_at hl 0 rfl) ?_
    refine cw_get (ci := 10) (v := .int (hz_i (z y0 1))) hx hb hts hin10 hown hK hP hO_15.1 hO_15.2 rfl 1 (by decide) (hts (.fieldLink RX10 15 "HiddenMoves$Words" "length" "I") (List.mem_cons_of_mem _ (List.mem_append_left _ (List.mem_of_getElem? (i := 1) rfl)))) (fun _ h9 => h9) rfl dX10_advance_5 ?_
    obtain ⟨h9a, hw⟩ := hw
    obtain ⟨h9b, hw⟩ := hw
    refine hz_icmp_ge (tgt := 38) hx hb dX10_advance_8 (by decide) h9a h9b (fun c_16 => ?_) (fun c_16 => ?_)
    · have hw := hw.1 c_16
      exact L38 z hw H locs ls hP hD hS (lv_sub hl [0] rfl)
    · have hw := hw.2 c_16
      refine lv_aload_n hx hb dX10_advance_11 rfl (lv_at hl 0 rfl) ?_
      refine cw_get (ci := 10) (v := .ref (r y0 0)) hx hb hts hin10 hown hK hP hO_15.1 hO_15.2 rfl 0 (by decide) (hts (.fieldLink RX10 9 "HiddenMoves$Words" "characters" "[C") (List.mem_cons_of_mem _ (List.mem_append_left _ (List.mem_of_getElem? (i := 2) rfl)))) (fun _ h9 => h9) rfl dX10_advance_12 ?_
      refine lv_aload_n hx hb dX10_advance_15 rfl (lv_at hl 0 rfl) ?_
      refine cw_get (ci := 10) (v := .int (hz_i (z y0 5))) hx hb hts hin10 hown hK hP hO_15.1 hO_15.2 rfl 5 (by decide) (hts (.fieldLink RX10 28 "HiddenMoves$Words" "behind" "I") (List.mem_cons_of_mem _ (List.mem_append_left _ (List.mem_of_getElem? (i := 0) rfl)))) (fun _ h9 => h9) rfl dX10_advance_16 ?_
      obtain ⟨hO_17, hw⟩ := hw
      obtain ⟨h9i, hw⟩ := hw
      refine cw_cld hx hb hK hP hO_17.1 hO_17.2.2 h9i hO_17.2.1 dX10_advance_19 ?_
      refine lv_bipush (v := hz_i 32) hx hb dX10_advance_20 (by decide +kernel) ?_
      obtain ⟨h9a, hw⟩ := hw
      refine hz_icmp_ne (tgt := 38) hx hb dX10_advance_22 (by decide) h9a ⟨by decide, by decide⟩ (fun c_18 => ?_) (fun c_18 => ?_)
      · have hw := hw.1 c_18
        exact L38 z hw H locs ls hP hD hS (lv_sub hl [0] rfl)
      · have hw := hw.2 c_18
        refine lv_aload_n hx hb dX10_advance_25 rfl (lv_at hl 0 rfl) ?_
        refine lv_dup hx hb dX10_advance_26 rfl ?_
        refine cw_get (ci := 10) (v := .int (hz_i (z y0 5))) hx hb hts hin10 hown hK hP hO_15.1 hO_15.2 rfl 5 (by decide) (hts (.fieldLink RX10 28 "HiddenMoves$Words" "behind" "I") (List.mem_cons_of_mem _ (List.mem_append_left _ (List.mem_of_getElem? (i := 0) rfl)))) (fun _ h9 => h9) rfl dX10_advance_27 ?_
        refine lv_iconst (v := hz_i 1) hx hb dX10_advance_30 (by decide +kernel) ?_
        refine hz_iadd hx hb dX10_advance_31 ?_
        refine cw_putz (ci := 10) (ty := .int) (v := .int (hz_i ((z y0 5) + 1))) (x := (z y0 5) + 1) hx hb hts hin10 tyX10 tyX10_ok nmX10 hown hK hP hD hS hO_15.1 hO_15.2 rfl 5 (by decide) (hts (.fieldLink RX10 28 "HiddenMoves$Words" "behind" "I") (List.mem_cons_of_mem _ (List.mem_append_left _ (List.mem_of_getElem? (i := 0) rfl)))) (fun _ h9 => h9) rfl (by decide +kernel) rfl rfl (Nat.le_of_ble_eq_true rfl) (cw_z10_5 _ _ _) dX10_advance_32 (fun H locs hP hD hS => ?_)
        obtain ⟨z_19, hz_19⟩ : ∃ y : Nat → Nat → Int, y = cw_s z y0 5 ((z y0 5) + 1) := ⟨_, rfl⟩
        rw [← hz_19] at hP hD
        have hw := hw z_19 hz_19
        refine lv_goto (tgt := 0) hx hb dX10_advance_35 (by decide) ?_
        exact (hP0 z_19).mp hw H locs ls hP hD hS (lv_sub hl [0] rfl)
  have hP := hP0; have hD := hD0; have hS := hS0; have hl := hl0; have hw := hw0
  obtain ⟨H, hH⟩ : ∃ H : Heap, H = s.heap := ⟨_, rfl⟩
  obtain ⟨locs, hlocs⟩ : ∃ L : List Loc, L = [] := ⟨_, rfl⟩
  rw [← hH] at hP
  have hS : va_S Ad s.heap H locs := by rw [hH, hlocs]; exact hS
  refine mw_HL hH hlocs ?_
  exact L0 z hw H locs ls hP hD hS (lv_sub hl [0] rfl)

noncomputable def wp_c10_typedCharacter (L : List Nat) (K : Nat → cw_K) (z : Nat → Nat → Int) (r : Nat → Nat → Nat) (A : Nat → Nat → Int) (y0 : Int) (y2 : Int) (Q : Int → Prop) : Prop := ∀ x9_1 : Int, hz_rL x9_1 → ((0 ≤ 8 * y2 ∧ 8 * y2 < 64) → x9_1 % 18446744073709551616 = y0 % 18446744073709551616 / 2 ^ (8 * y2).toNat) → ∀ x9_2 : Int, hz_rI x9_2 → x9_2 % 4294967296 = x9_1 % 4294967296 → ∀ x9_3 : Int, x9_3 = x9_2 % 256 → Q x9_3
set_option maxHeartbeats 4000000 in
set_option maxRecDepth 100000 in
theorem k_c10_typedCharacter (l : Launch) (D : va_G) (sz : Nat) (C : Nat → ClassId) (L : List Nat) (K : Nat → cw_K) (z : Nat → Nat → Int) (r : Nat → Nat → Nat) (A : Nat → Nat → Int) (y0 : Int) (y2 : Int) (Q : Int → Prop) (hw : wp_c10_typedCharacter L K z r A y0 y2 Q) : Met l yX10_typedCharacter wsX10_typedCharacter ({ frames := 0, cells := 0, slots := 0, locals := 0 } : Room) (va_Pc [.long (hz_l y0), .int (hz_i y2)] (hm_P D (cw_w C L K z r A) (cw_t C) sz)) (va_Qi (S := Int × (Nat → Nat → Int) × (Nat → Nat → Nat) × (Nat → Nat → Int)) (fun r u => r = hz_i u.1 ∧ Q u.1) (fun u t => hm_B D (va_A (cw_w C L K z r A) sz) (cw_w C L K z r A) (cw_t C) t) (va_A (cw_w C L K z r A) sz)) 0 0 (va_A (cw_w C L K z r A) sz) := by
  refine Met.ofW (cc := cX10_typedCharacter) (maxL := 3) (ret := (some .int)) (by decide) rfl ?_
  intro p e s m args below meth c s₁ B hml hv
  obtain ⟨rfl, hsz, hP, hK, hD0, hE⟩ := hv
  have hx := B.exec
  have hb := B.bytes
  have hr := B.returns
  have hts := atoms_spec (ws := wsX10_typedCharacter) B.pre
  have hown : s.vm.findClass RX10 = some m.cls := findClass_of_methodNamed B.named
  have hlocks := B.notSynchronized
  subst hsz
  have hD := hD0.self (sz := s.heap.size)
  generalize hAe : va_A (cw_w C L K z r A) s.heap.size = Ad at hD ⊢
  have hA : ∀ q : Nat, s.heap.size ≤ q → Ad q := fun q h => by rw [← hAe]; exact Or.inr h
  have hS : va_S Ad s.heap s.heap [] := va_S.rf
  have hl := lv_entry ([.long (hz_l y0), .int (hz_i y2)]) (n := 3) (Nat.le_of_ble_eq_true rfl)
  rw [lg_entry_eq]
  generalize (lg_sl ([.long (hz_l y0), .int (hz_i y2)]) ++ List.replicate (3 - (lg_sl ([.long (hz_l y0), .int (hz_i y2)])).length) Slot.unset).toArray = ls at hl ⊢
  have hl : lv_has ls 3 [(0, .long (hz_l y0)), (2, .int (hz_i y2))] := hl
  refine mw_Q (fun QQ hQQ => ?_)
  have hP0 := hP; have hD0 := hD; have hS0 := hS; have hl0 := hl; have hw0 := hw
  clear hP hD hS hl hw
  have hP := hP0; have hD := hD0; have hS := hS0; have hl := hl0; have hw := hw0
  obtain ⟨H, hH⟩ : ∃ H : Heap, H = s.heap := ⟨_, rfl⟩
  obtain ⟨locs, hlocs⟩ : ∃ L : List Loc, L = [] := ⟨_, rfl⟩
  rw [← hH] at hP
  have hS : va_S Ad s.heap H locs := by rw [hH, hlocs]; exact hS
  refine mw_HL hH hlocs ?_
  refine lv_lload_n hx hb dX10_typedCharacter_0 rfl (lv_at hl 0 rfl) ?_
  refine lv_bipush (v := hz_i 8) hx hb dX10_typedCharacter_1 (by decide +kernel) ?_
  refine lv_iload_n hx hb dX10_typedCharacter_3 rfl (lv_at hl 1 rfl) ?_
  refine hz_imul hx hb dX10_typedCharacter_4 ?_
  refine cw_lushrv hx hb dX10_typedCharacter_5 (fun x9_1 hx9_1a hx9_1b => ?_)
  have hw := hw x9_1 hx9_1a hx9_1b
  refine cw_l2i hx hb dX10_typedCharacter_6 (fun x9_2 hx9_2a hx9_2b => ?_)
  have hw := hw x9_2 hx9_2a hx9_2b
  refine lv_sipush (v := hz_i 255) hx hb dX10_typedCharacter_7 (by decide +kernel) ?_
  refine cw_iand (P := 256) hx hb 8 dX10_typedCharacter_10 (by decide) (by decide +kernel) (by decide +kernel) (fun x9_3 hx9_3a => ?_)
  have hw := hw x9_3 hx9_3a
  subst hQQ
  subst hAe
  exact W.iret (v := hz_i x9_3) hx hb hr (fun t ht hW => ⟨⟨hz_i x9_3, (x9_3, z, r, A), rfl, ⟨rfl, hw⟩, by rw [ht]; exact hP, va_K.moved hW.alike hK, hD⟩, hS.F ht⟩) hS.2.2 dX10_typedCharacter_11

noncomputable def wp_c10_append_69 (L : List Nat) (K : Nat → cw_K) (z : Nat → Nat → Int) (r : Nat → Nat → Nat) (A : Nat → Nat → Int) (y0 : Nat) (y1 : Int) (x4 : Int) (Q : Int → (Nat → Nat → Int) → (Nat → Nat → Int) → Prop) : Prop := ∀ P69 : (Nat → Nat → Int) → (Nat → Nat → Int) → Int → Prop, (∀ (z : Nat → Nat → Int) (A : Nat → Nat → Int) (x4 : Int), hz_rI x4 ∧ ((x4 < 0 → Q 1 z A) ∧ (¬ (x4 < 0) → cw_O L K 10 y0 ∧ wp_c10_typedCharacter L K z r A y1 x4 (fun rv_3 => ∀ x9_4 : Int, x9_4 = rv_3 % 65536 → cw_A L K 2 (r y0 0) ∧ ((0 : Int) ≤ z y0 1 ∧ z y0 1 < (cw_n K (r y0 0) : Int)) ∧ (0 ≤ x9_4 ∧ x9_4 < 65536) ∧ ∀ A_6 : Nat → Nat → Int, A_6 = hz_s A (r y0 0) (z y0 1) x9_4 → ∀ z_7 : Nat → Nat → Int, z_7 = cw_s z y0 1 ((z y0 1) + 1) → ∀ x4_8 : Int, x4_8 = x4 + (-1) → P69 z_7 A_6 x4_8))) → P69 z A x4) → P69 z A x4
noncomputable def wp_c10_append_56 (L : List Nat) (K : Nat → cw_K) (z : Nat → Nat → Int) (r : Nat → Nat → Nat) (A : Nat → Nat → Int) (Q : Int → (Nat → Nat → Int) → (Nat → Nat → Int) → Prop) : Prop := Q 0 z A
noncomputable def wp_c10_append_28 (L : List Nat) (K : Nat → cw_K) (z : Nat → Nat → Int) (r : Nat → Nat → Nat) (A : Nat → Nat → Int) (y0 : Nat) (y1 : Int) (y3 : Int) (x4 : Int) (Q : Int → (Nat → Nat → Int) → (Nat → Nat → Int) → Prop) : Prop := ∀ P28 : Int → Prop, (∀ (x4 : Int), hz_rI x4 ∧ hz_rI y3 ∧ ((y3 ≤ x4 → ∀ x4_10 : Int, x4_10 = y3 - 1 → wp_c10_append_69 L K z r A y0 y1 x4_10  Q) ∧ (¬ (y3 ≤ x4) → wp_c10_typedCharacter L K z r A y1 x4 (fun rv_11 => hz_rI rv_11 ∧ ((rv_11 < 32 → wp_c10_append_56 L K z r A  Q) ∧ (¬ (rv_11 < 32) → hz_rI rv_11 ∧ ((rv_11 ≤ 126 → ∀ x4_14 : Int, x4_14 = x4 + 1 → P28 x4_14) ∧ (¬ (rv_11 ≤ 126) → wp_c10_append_56 L K z r A  Q))))))) → P28 x4) → P28 x4
noncomputable def wp_c10_append_23 (L : List Nat) (K : Nat → cw_K) (z : Nat → Nat → Int) (r : Nat → Nat → Nat) (A : Nat → Nat → Int) (Q : Int → (Nat → Nat → Int) → (Nat → Nat → Int) → Prop) : Prop := Q 0 z A
noncomputable def wp_c10_append (L : List Nat) (K : Nat → cw_K) (z : Nat → Nat → Int) (r : Nat → Nat → Nat) (A : Nat → Nat → Int) (y0 : Nat) (y1 : Int) (y3 : Int) (Q : Int → (Nat → Nat → Int) → (Nat → Nat → Int) → Prop) : Prop := hz_rI y3 ∧ ((y3 < 1 → wp_c10_append_23 L K z r A  Q) ∧ (¬ (y3 < 1) → hz_rI y3 ∧ ((8 < y3 → wp_c10_append_23 L K z r A  Q) ∧ (¬ (8 < y3) → cw_O L K 10 y0 ∧ hz_rI ((z y0 1) + y3) ∧ (((z y0 1) + y3 ≤ 4000 → wp_c10_append_28 L K z r A y0 y1 y3 0  Q) ∧ (¬ ((z y0 1) + y3 ≤ 4000) → wp_c10_append_23 L K z r A  Q))))))
set_option maxHeartbeats 4000000 in
set_option maxRecDepth 100000 in
theorem k_c10_append (l : Launch) (D : va_G) (sz : Nat) (C : Nat → ClassId) (L : List Nat) (K : Nat → cw_K) (z : Nat → Nat → Int) (r : Nat → Nat → Nat) (A : Nat → Nat → Int) (y0 : Nat) (y1 : Int) (y3 : Int) (Q : Int → (Nat → Nat → Int) → (Nat → Nat → Int) → Prop) (hw : wp_c10_append L K z r A y0 y1 y3 Q) : Met l yX10_append wsX10_append ({ frames := 1, cells := 0, slots := 0, locals := 22 } : Room) (va_Pc [.ref y0, .long (hz_l y1), .int (hz_i y3)] (hm_P D (cw_w C L K z r A) (cw_t C) sz)) (va_Qi (S := Int × (Nat → Nat → Int) × (Nat → Nat → Nat) × (Nat → Nat → Int)) (fun r u => r = hz_i u.1 ∧ Q u.1 u.2.1 u.2.2.2) (fun u t => hm_B D (va_A (cw_w C L K z r A) sz) (cw_w C L K u.2.1 r u.2.2.2) (cw_t C) t) (va_A (cw_w C L K z r A) sz)) 0 0 (va_A (cw_w C L K z r A) sz) := by
  refine Met.ofW (cc := cX10_append) (maxL := 6) (ret := (some .boolean)) (by decide) rfl ?_
  intro p e s m args below meth c s₁ B hml hv
  obtain ⟨rfl, hsz, hP, hK, hD0, hE⟩ := hv
  have hx := B.exec
  have hb := B.bytes
  have hr := B.returns
  have hts := atoms_spec (ws := wsX10_append) B.pre
  have hown : s.vm.findClass RX10 = some m.cls := findClass_of_methodNamed B.named
  have hlocks := B.notSynchronized
  have hin10 : ∀ w ∈ u_ws RX10 TX10 6, w ∈ wsX10_append := fun w h => List.mem_cons_of_mem _ (List.mem_append_right _ (h))
  subst hsz
  have hD := hD0.self (sz := s.heap.size)
  generalize hAe : va_A (cw_w C L K z r A) s.heap.size = Ad at hD ⊢
  have hA : ∀ q : Nat, s.heap.size ≤ q → Ad q := fun q h => by rw [← hAe]; exact Or.inr h
  have hS : va_S Ad s.heap s.heap [] := va_S.rf
  have hl := lv_entry ([.ref y0, .long (hz_l y1), .int (hz_i y3)]) (n := 6) (Nat.le_of_ble_eq_true rfl)
  rw [lg_entry_eq]
  generalize (lg_sl ([.ref y0, .long (hz_l y1), .int (hz_i y3)]) ++ List.replicate (6 - (lg_sl ([.ref y0, .long (hz_l y1), .int (hz_i y3)])).length) Slot.unset).toArray = ls at hl ⊢
  have hl : lv_has ls 6 [(0, .ref y0), (1, .long (hz_l y1)), (3, .int (hz_i y3))] := hl
  refine mw_Q (fun QQ hQQ => ?_)
  have hP0 := hP; have hD0 := hD; have hS0 := hS; have hl0 := hl; have hw0 := hw
  clear hP hD hS hl hw
  have L69 : ∀ (z : Nat → Nat → Int) (A : Nat → Nat → Int) (x4 : Int), wp_c10_append_69 L K z r A y0 y1 x4  Q → ∀ (H : Heap) (locs : List Loc) (ls : Array Slot), va_P D vwCl (cw_w C L K z r A) H → va_D Ad (cw_w C L K z r A) → va_S Ad s.heap H locs → lv_has ls 6 [(0, .ref y0), (1, .long (hz_l y1)), (4, .int (hz_i x4))] → W p l e (headSpec wsX10_append ({ frames := 1, cells := 0, slots := 0, locals := 22 } : Room)).room s m (List.toArray [.ref y0, .long (hz_l y1), .int (hz_i y3)]) below meth c H locs 0 0 QQ (F0 m 69 ls []) := by
    intro z A x4 hw
    obtain ⟨P69, hP69⟩ : ∃ P : (Nat → Nat → Int) → (Nat → Nat → Int) → Int → Prop, ∀ (z : Nat → Nat → Int) (A : Nat → Nat → Int) (x4 : Int), P z A x4 ↔ (∀ (H : Heap) (locs : List Loc) (ls : Array Slot), va_P D vwCl (cw_w C L K z r A) H → va_D Ad (cw_w C L K z r A) → va_S Ad s.heap H locs → lv_has ls 6 [(0, .ref y0), (1, .long (hz_l y1)), (4, .int (hz_i x4))] → W p l e (headSpec wsX10_append ({ frames := 1, cells := 0, slots := 0, locals := 22 } : Room)).room s m (List.toArray [.ref y0, .long (hz_l y1), .int (hz_i y3)]) below meth c H locs 0 0 QQ (F0 m 69 ls [])) := ⟨fun (z : Nat → Nat → Int) (A : Nat → Nat → Int) (x4 : Int) => ∀ (H : Heap) (locs : List Loc) (ls : Array Slot), va_P D vwCl (cw_w C L K z r A) H → va_D Ad (cw_w C L K z r A) → va_S Ad s.heap H locs → lv_has ls 6 [(0, .ref y0), (1, .long (hz_l y1)), (4, .int (hz_i x4))] → W p l e (headSpec wsX10_append ({ frames := 1, cells := 0, slots := 0, locals := 22 } : Room)).room s m (List.toArray [.ref y0, .long (hz_l y1), .int (hz_i y3)]) below meth c H locs 0 0 QQ (F0 m 69 ls []), fun _ _ _ => Iff.rfl⟩
    refine (hP69 z A x4).mp (hw P69 ?_)
    intro z A x4 hw
    refine (hP69 z A x4).mpr ?_
    intro H locs ls hP hD hS hl
    refine lv_iload hx hb dX10_append_69 (lv_at hl 2 rfl) ?_
    obtain ⟨h9a, hw⟩ := hw
    refine hz_if_lt (tgt := 106) hx hb dX10_append_71 (by decide) h9a (fun c_1 => ?_) (fun c_1 => ?_)
    · have hw := hw.1 c_1
      refine lv_iconst (v := hz_i 1) hx hb dX10_append_106 (by decide +kernel) ?_
      subst hQQ
      subst hAe
      exact W.zret (v := hz_i 1) hx hb hr (hz_tZ (by decide)) (fun t ht hW => ⟨⟨hz_i 1, (1, z, r, A), rfl, ⟨rfl, hw⟩, by rw [ht]; exact hP, va_K.moved hW.alike hK, hD⟩, hS.F ht⟩) hS.2.2 dX10_append_107
    · have hw := hw.2 c_1
      refine lv_aload_n hx hb dX10_append_74 rfl (lv_at hl 0 rfl) ?_
      obtain ⟨hO_2, hw⟩ := hw
      refine cw_get (ci := 10) (v := .ref (r y0 0)) hx hb hts hin10 hown hK hP hO_2.1 hO_2.2 rfl 0 (by decide) (hts (.fieldLink RX10 9 "HiddenMoves$Words" "characters" "[C") (List.mem_cons_of_mem _ (List.mem_append_left _ (List.mem_of_getElem? (i := 1) rfl)))) (fun _ h9 => h9) rfl dX10_append_75 ?_
      refine lv_aload_n hx hb dX10_append_78 rfl (lv_at hl 0 rfl) ?_
      refine cw_get (ci := 10) (v := .int (hz_i (z y0 1))) hx hb hts hin10 hown hK hP hO_2.1 hO_2.2 rfl 1 (by decide) (hts (.fieldLink RX10 15 "HiddenMoves$Words" "length" "I") (List.mem_cons_of_mem _ (List.mem_append_left _ (List.mem_of_getElem? (i := 0) rfl)))) (fun _ h9 => h9) rfl dX10_append_79 ?_
      refine lv_lload_n hx hb dX10_append_82 rfl (lv_at hl 1 rfl) ?_
      refine lv_iload hx hb dX10_append_83 (lv_at hl 2 rfl) ?_
      have hFc := cw_free hD hS hA
      refine va_calli (va_runS (As := [.long (hz_l y1), .int (hz_i x4)]) (rest := [.int (hz_i (z y0 1)), .ref (r y0 0)]) ⟨hx, hb, hml, hown, hts⟩ (k_c10_typedCharacter l D _ C L K z r A y1 x4 _ hw) (va_cwS 2 hts gX10_append_X10_typedCharacter rfl rfl rfl (by decide +kernel) ⟨Nat.le_of_ble_eq_true rfl, Nat.le_of_ble_eq_true rfl⟩) ⟨hm_blind, hm_pre hP hK hD hE⟩ rfl rfl hl.1 rfl (lv_room (Nat.le_of_ble_eq_true rfl)) dX10_append_85 ⟨Nat.le_of_ble_eq_true rfl, Nat.le_of_ble_eq_true rfl⟩) hS (fun q _ h => hFc q h) hFc (fun rv u t H1 locs ht hvm hw hB hz1 hk1 hS => ?_)
      obtain ⟨rv_3, _, _, _⟩ := u
      obtain ⟨hP, hK1, hD1⟩ := hB
      rw [ht] at hP
      obtain ⟨hrv, hw⟩ := hw
      subst hrv
      have hD := hD1.weaken (fun k q _ h => hFc q.1 h)
      have hP : va_P D vwCl (cw_w C L K z r A) H1 := hP
      have hD : va_D Ad (cw_w C L K z r A) := hD
      generalize H1 = H at hP hS ⊢
      refine W.eq (g2 := F0 m 88 ls [.int (hz_i rv_3), .int (hz_i (z y0 1)), .ref (r y0 0)]) rfl ?_
      refine cw_i2c hx hb dX10_append_88 (fun x9_4 hx9_4a => ?_)
      have hw := hw x9_4 hx9_4a
      obtain ⟨hO_5, hw⟩ := hw
      obtain ⟨h9i, hw⟩ := hw
      obtain ⟨h9z, hw⟩ := hw
      refine cw_cst (v := x9_4) hx hb hK hP hD hS hO_5.1 hO_5.2.2 h9i hO_5.2.1 (cw_nC h9z) dX10_append_89 (fun H locs hP hD hS => ?_)
      obtain ⟨A_6, hA_6⟩ : ∃ y : Nat → Nat → Int, y = hz_s A (r y0 0) (z y0 1) x9_4 := ⟨_, rfl⟩
      rw [← hA_6] at hP hD
      have hw := hw A_6 hA_6
      refine lv_aload_n hx hb dX10_append_90 rfl (lv_at hl 0 rfl) ?_
      refine lv_dup hx hb dX10_append_91 rfl ?_
      refine cw_get (ci := 10) (v := .int (hz_i (z y0 1))) hx hb hts hin10 hown hK hP hO_2.1 hO_2.2 rfl 1 (by decide) (hts (.fieldLink RX10 15 "HiddenMoves$Words" "length" "I") (List.mem_cons_of_mem _ (List.mem_append_left _ (List.mem_of_getElem? (i := 0) rfl)))) (fun _ h9 => h9) rfl dX10_append_92 ?_
      refine lv_iconst (v := hz_i 1) hx hb dX10_append_95 (by decide +kernel) ?_
      refine hz_iadd hx hb dX10_append_96 ?_
      refine cw_putz (ci := 10) (ty := .int) (v := .int (hz_i ((z y0 1) + 1))) (x := (z y0 1) + 1) hx hb hts hin10 tyX10 tyX10_ok nmX10 hown hK hP hD hS hO_2.1 hO_2.2 rfl 1 (by decide) (hts (.fieldLink RX10 15 "HiddenMoves$Words" "length" "I") (List.mem_cons_of_mem _ (List.mem_append_left _ (List.mem_of_getElem? (i := 0) rfl)))) (fun _ h9 => h9) rfl (by decide +kernel) rfl rfl (Nat.le_of_ble_eq_true rfl) (cw_z10_1 _ _ _) dX10_append_97 (fun H locs hP hD hS => ?_)
      obtain ⟨z_7, hz_7⟩ : ∃ y : Nat → Nat → Int, y = cw_s z y0 1 ((z y0 1) + 1) := ⟨_, rfl⟩
      rw [← hz_7] at hP hD
      have hw := hw z_7 hz_7
      obtain ⟨x4_8, hx4_8⟩ : ∃ y : Int, y = x4 + (-1) := ⟨_, rfl⟩
      have hw := hw x4_8 hx4_8
      refine lv_iinc (v := hz_i x4_8) (lv' := [(4, .int (hz_i x4_8)), (0, .ref y0), (1, .long (hz_l y1))]) hx hb dX10_append_100 hl (k := 2) rfl (by rw [hx4_8]; exact hz_i_add _ _) (by decide) rfl (fun ls hl => ?_)
      refine lv_goto (tgt := 69) hx hb dX10_append_103 (by decide) ?_
      exact (hP69 z_7 A_6 x4_8).mp hw H locs ls hP hD hS (lv_sub hl [1, 2, 0] rfl)
  have L56 : ∀ (z : Nat → Nat → Int) (A : Nat → Nat → Int), wp_c10_append_56 L K z r A  Q → ∀ (H : Heap) (locs : List Loc) (ls : Array Slot), va_P D vwCl (cw_w C L K z r A) H → va_D Ad (cw_w C L K z r A) → va_S Ad s.heap H locs → lv_has ls 6 [] → W p l e (headSpec wsX10_append ({ frames := 1, cells := 0, slots := 0, locals := 22 } : Room)).room s m (List.toArray [.ref y0, .long (hz_l y1), .int (hz_i y3)]) below meth c H locs 0 0 QQ (F0 m 56 ls []) := by
    intro z A hw H locs ls hP hD hS hl
    refine lv_iconst (v := hz_i 0) hx hb dX10_append_56 (by decide +kernel) ?_
    subst hQQ
    subst hAe
    exact W.zret (v := hz_i 0) hx hb hr (hz_tZ (by decide)) (fun t ht hW => ⟨⟨hz_i 0, (0, z, r, A), rfl, ⟨rfl, hw⟩, by rw [ht]; exact hP, va_K.moved hW.alike hK, hD⟩, hS.F ht⟩) hS.2.2 dX10_append_57
  have L28 : ∀ (z : Nat → Nat → Int) (A : Nat → Nat → Int) (x4 : Int), wp_c10_append_28 L K z r A y0 y1 y3 x4  Q → ∀ (H : Heap) (locs : List Loc) (ls : Array Slot), va_P D vwCl (cw_w C L K z r A) H → va_D Ad (cw_w C L K z r A) → va_S Ad s.heap H locs → lv_has ls 6 [(0, .ref y0), (1, .long (hz_l y1)), (3, .int (hz_i y3)), (4, .int (hz_i x4))] → W p l e (headSpec wsX10_append ({ frames := 1, cells := 0, slots := 0, locals := 22 } : Room)).room s m (List.toArray [.ref y0, .long (hz_l y1), .int (hz_i y3)]) below meth c H locs 0 0 QQ (F0 m 28 ls []) := by
    intro z A x4 hw
    obtain ⟨P28, hP28⟩ : ∃ P : Int → Prop, ∀ (x4 : Int), P x4 ↔ (∀ (H : Heap) (locs : List Loc) (ls : Array Slot), va_P D vwCl (cw_w C L K z r A) H → va_D Ad (cw_w C L K z r A) → va_S Ad s.heap H locs → lv_has ls 6 [(0, .ref y0), (1, .long (hz_l y1)), (3, .int (hz_i y3)), (4, .int (hz_i x4))] → W p l e (headSpec wsX10_append ({ frames := 1, cells := 0, slots := 0, locals := 22 } : Room)).room s m (List.toArray [.ref y0, .long (hz_l y1), .int (hz_i y3)]) below meth c H locs 0 0 QQ (F0 m 28 ls [])) := ⟨fun (x4 : Int) => ∀ (H : Heap) (locs : List Loc) (ls : Array Slot), va_P D vwCl (cw_w C L K z r A) H → va_D Ad (cw_w C L K z r A) → va_S Ad s.heap H locs → lv_has ls 6 [(0, .ref y0), (1, .long (hz_l y1)), (3, .int (hz_i y3)), (4, .int (hz_i x4))] → W p l e (headSpec wsX10_append ({ frames := 1, cells := 0, slots := 0, locals := 22 } : Room)).room s m (List.toArray [.ref y0, .long (hz_l y1), .int (hz_i y3)]) below meth c H locs 0 0 QQ (F0 m 28 ls []), fun _ => Iff.rfl⟩
    refine (hP28 x4).mp (hw P28 ?_)
    intro x4 hw
    refine (hP28 x4).mpr ?_
    intro H locs ls hP hD hS hl
    refine lv_iload hx hb dX10_append_28 (lv_at hl 3 rfl) ?_
    refine lv_iload_n hx hb dX10_append_30 rfl (lv_at hl 2 rfl) ?_
    obtain ⟨h9a, hw⟩ := hw
    obtain ⟨h9b, hw⟩ := hw
    refine hz_icmp_ge (tgt := 64) hx hb dX10_append_31 (by decide) h9a h9b (fun c_9 => ?_) (fun c_9 => ?_)
    · have hw := hw.1 c_9
      refine lv_iload_n hx hb dX10_append_64 rfl (lv_at hl 2 rfl) ?_
      refine lv_iconst (v := hz_i 1) hx hb dX10_append_65 (by decide +kernel) ?_
      refine hz_isub hx hb dX10_append_66 ?_
      refine hz_topi (fun x4_10 hx4_10 => ?_)
      have hw := hw x4_10 hx4_10
      refine lv_istore (lv' := [(4, .int (hz_i x4_10)), (0, .ref y0), (1, .long (hz_l y1)), (3, .int (hz_i y3))]) hx hb dX10_append_67 hl (by decide) rfl (fun ls hl => ?_)
      exact L69 z A x4_10 hw H locs ls hP hD hS (lv_sub hl [1, 2, 0] rfl)
    · have hw := hw.2 c_9
      refine lv_lload_n hx hb dX10_append_34 rfl (lv_at hl 1 rfl) ?_
      refine lv_iload hx hb dX10_append_35 (lv_at hl 3 rfl) ?_
      have hFc := cw_free hD hS hA
      refine va_calli (va_runS (As := [.long (hz_l y1), .int (hz_i x4)]) (rest := []) ⟨hx, hb, hml, hown, hts⟩ (k_c10_typedCharacter l D _ C L K z r A y1 x4 _ hw) (va_cwS 2 hts gX10_append_X10_typedCharacter rfl rfl rfl (by decide +kernel) ⟨Nat.le_of_ble_eq_true rfl, Nat.le_of_ble_eq_true rfl⟩) ⟨hm_blind, hm_pre hP hK hD hE⟩ rfl rfl hl.1 rfl (lv_room (Nat.le_of_ble_eq_true rfl)) dX10_append_37 ⟨Nat.le_of_ble_eq_true rfl, Nat.le_of_ble_eq_true rfl⟩) hS (fun q _ h => hFc q h) hFc (fun rv u t H1 locs ht hvm hw hB hz1 hk1 hS => ?_)
      obtain ⟨rv_11, _, _, _⟩ := u
      obtain ⟨hP, hK1, hD1⟩ := hB
      rw [ht] at hP
      obtain ⟨hrv, hw⟩ := hw
      subst hrv
      have hD := hD1.weaken (fun k q _ h => hFc q.1 h)
      have hP : va_P D vwCl (cw_w C L K z r A) H1 := hP
      have hD : va_D Ad (cw_w C L K z r A) := hD
      generalize H1 = H at hP hS ⊢
      refine W.eq (g2 := F0 m 40 ls [.int (hz_i rv_11)]) rfl ?_
      refine lv_istore (lv' := [(5, .int (hz_i rv_11)), (0, .ref y0), (1, .long (hz_l y1)), (3, .int (hz_i y3)), (4, .int (hz_i x4))]) hx hb dX10_append_40 hl (by decide) rfl (fun ls hl => ?_)
      refine lv_iload hx hb dX10_append_42 (lv_at hl 0 rfl) ?_
      refine lv_bipush (v := hz_i 32) hx hb dX10_append_44 (by decide +kernel) ?_
      obtain ⟨h9a, hw⟩ := hw
      refine hz_icmp_lt (tgt := 56) hx hb dX10_append_46 (by decide) h9a ⟨by decide, by decide⟩ (fun c_12 => ?_) (fun c_12 => ?_)
      · have hw := hw.1 c_12
        exact L56 z A hw H locs ls hP hD hS (lv_sub hl [] rfl)
      · have hw := hw.2 c_12
        refine lv_iload hx hb dX10_append_49 (lv_at hl 0 rfl) ?_
        refine lv_bipush (v := hz_i 126) hx hb dX10_append_51 (by decide +kernel) ?_
        obtain ⟨h9a, hw⟩ := hw
        refine hz_icmp_le (tgt := 58) hx hb dX10_append_53 (by decide) h9a ⟨by decide, by decide⟩ (fun c_13 => ?_) (fun c_13 => ?_)
        · have hw := hw.1 c_13
          obtain ⟨x4_14, hx4_14⟩ : ∃ y : Int, y = x4 + 1 := ⟨_, rfl⟩
          have hw := hw x4_14 hx4_14
          refine lv_iinc (v := hz_i x4_14) (lv' := [(4, .int (hz_i x4_14)), (5, .int (hz_i rv_11)), (0, .ref y0), (1, .long (hz_l y1)), (3, .int (hz_i y3))]) hx hb dX10_append_58 hl (k := 4) rfl (by rw [hx4_14]; exact hz_i_add _ _) (by decide) rfl (fun ls hl => ?_)
          refine lv_goto (tgt := 28) hx hb dX10_append_61 (by decide) ?_
          exact (hP28 x4_14).mp hw H locs ls hP hD hS (lv_sub hl [2, 3, 4, 0] rfl)
        · have hw := hw.2 c_13
          exact L56 z A hw H locs ls hP hD hS (lv_sub hl [] rfl)
  have L23 : ∀ (z : Nat → Nat → Int) (A : Nat → Nat → Int), wp_c10_append_23 L K z r A  Q → ∀ (H : Heap) (locs : List Loc) (ls : Array Slot), va_P D vwCl (cw_w C L K z r A) H → va_D Ad (cw_w C L K z r A) → va_S Ad s.heap H locs → lv_has ls 6 [] → W p l e (headSpec wsX10_append ({ frames := 1, cells := 0, slots := 0, locals := 22 } : Room)).room s m (List.toArray [.ref y0, .long (hz_l y1), .int (hz_i y3)]) below meth c H locs 0 0 QQ (F0 m 23 ls []) := by
    intro z A hw H locs ls hP hD hS hl
    refine lv_iconst (v := hz_i 0) hx hb dX10_append_23 (by decide +kernel) ?_
    subst hQQ
    subst hAe
    exact W.zret (v := hz_i 0) hx hb hr (hz_tZ (by decide)) (fun t ht hW => ⟨⟨hz_i 0, (0, z, r, A), rfl, ⟨rfl, hw⟩, by rw [ht]; exact hP, va_K.moved hW.alike hK, hD⟩, hS.F ht⟩) hS.2.2 dX10_append_24
  have hP := hP0; have hD := hD0; have hS := hS0; have hl := hl0; have hw := hw0
  obtain ⟨H, hH⟩ : ∃ H : Heap, H = s.heap := ⟨_, rfl⟩
  obtain ⟨locs, hlocs⟩ : ∃ L : List Loc, L = [] := ⟨_, rfl⟩
  rw [← hH] at hP
  have hS : va_S Ad s.heap H locs := by rw [hH, hlocs]; exact hS
  refine mw_HL hH hlocs ?_
  refine lv_iload_n hx hb dX10_append_0 rfl (lv_at hl 2 rfl) ?_
  refine lv_iconst (v := hz_i 1) hx hb dX10_append_1 (by decide +kernel) ?_
  obtain ⟨h9a, hw⟩ := hw
  refine hz_icmp_lt (tgt := 23) hx hb dX10_append_2 (by decide) h9a ⟨by decide, by decide⟩ (fun c_15 => ?_) (fun c_15 => ?_)
  · have hw := hw.1 c_15
    exact L23 z A hw H locs ls hP hD hS (lv_sub hl [] rfl)
  · have hw := hw.2 c_15
    refine lv_iload_n hx hb dX10_append_5 rfl (lv_at hl 2 rfl) ?_
    refine lv_bipush (v := hz_i 8) hx hb dX10_append_6 (by decide +kernel) ?_
    obtain ⟨h9a, hw⟩ := hw
    refine hz_icmp_gt (tgt := 23) hx hb dX10_append_8 (by decide) h9a ⟨by decide, by decide⟩ (fun c_16 => ?_) (fun c_16 => ?_)
    · have hw := hw.1 c_16
      exact L23 z A hw H locs ls hP hD hS (lv_sub hl [] rfl)
    · have hw := hw.2 c_16
      refine lv_aload_n hx hb dX10_append_11 rfl (lv_at hl 0 rfl) ?_
      obtain ⟨hO_17, hw⟩ := hw
      refine cw_get (ci := 10) (v := .int (hz_i (z y0 1))) hx hb hts hin10 hown hK hP hO_17.1 hO_17.2 rfl 1 (by decide) (hts (.fieldLink RX10 15 "HiddenMoves$Words" "length" "I") (List.mem_cons_of_mem _ (List.mem_append_left _ (List.mem_of_getElem? (i := 0) rfl)))) (fun _ h9 => h9) rfl dX10_append_12 ?_
      refine lv_iload_n hx hb dX10_append_15 rfl (lv_at hl 2 rfl) ?_
      refine hz_iadd hx hb dX10_append_16 ?_
      refine lv_sipush (v := hz_i 4000) hx hb dX10_append_17 (by decide +kernel) ?_
      obtain ⟨h9a, hw⟩ := hw
      refine hz_icmp_le (tgt := 25) hx hb dX10_append_20 (by decide) h9a ⟨by decide, by decide⟩ (fun c_18 => ?_) (fun c_18 => ?_)
      · have hw := hw.1 c_18
        refine lv_iconst (v := hz_i 0) hx hb dX10_append_25 (by decide +kernel) ?_
        refine lv_istore (lv' := [(4, .int (hz_i 0)), (0, .ref y0), (1, .long (hz_l y1)), (3, .int (hz_i y3))]) hx hb dX10_append_26 hl (by decide) rfl (fun ls hl => ?_)
        exact L28 z A 0 hw H locs ls hP hD hS (lv_sub hl [1, 2, 3, 0] rfl)
      · have hw := hw.2 c_18
        exact L23 z A hw H locs ls hP hD hS (lv_sub hl [] rfl)

noncomputable def wp_c10_goToStart (L : List Nat) (K : Nat → cw_K) (z : Nat → Nat → Int) (r : Nat → Nat → Nat) (A : Nat → Nat → Int) (y0 : Nat) (Q : (Nat → Nat → Int) → Prop) : Prop := cw_O L K 10 y0 ∧ ∀ z_2 : Nat → Nat → Int, z_2 = cw_s z y0 5 0 → wp_c10_advance L K z_2 r A y0 (fun z_4 => Q z_4)
set_option maxHeartbeats 4000000 in
set_option maxRecDepth 100000 in
theorem k_c10_goToStart (l : Launch) (D : va_G) (sz : Nat) (C : Nat → ClassId) (L : List Nat) (K : Nat → cw_K) (z : Nat → Nat → Int) (r : Nat → Nat → Nat) (A : Nat → Nat → Int) (y0 : Nat) (Q : (Nat → Nat → Int) → Prop) (hw : wp_c10_goToStart L K z r A y0 Q) : Met l yX10_goToStart wsX10_goToStart ({ frames := 2, cells := 0, slots := 0, locals := 40 } : Room) (va_Pc [.ref y0] (hm_P D (cw_w C L K z r A) (cw_t C) sz)) (va_Qv (S := Int × (Nat → Nat → Int) × (Nat → Nat → Nat) × (Nat → Nat → Int)) (fun u => Q u.2.1) (fun u t => hm_B D (va_A (cw_w C L K z r A) sz) (cw_w C L K u.2.1 r A) (cw_t C) t) (va_A (cw_w C L K z r A) sz)) 0 0 (va_A (cw_w C L K z r A) sz) := by
  refine Met.ofW (cc := cX10_goToStart) (maxL := 1) (ret := none) (by decide) rfl ?_
  intro p e s m args below meth c s₁ B hml hv
  obtain ⟨rfl, hsz, hP, hK, hD0, hE⟩ := hv
  have hx := B.exec
  have hb := B.bytes
  have hr := B.returns
  have hts := atoms_spec (ws := wsX10_goToStart) B.pre
  have hown : s.vm.findClass RX10 = some m.cls := findClass_of_methodNamed B.named
  have hlocks := B.notSynchronized
  have hin10 : ∀ w ∈ u_ws RX10 TX10 6, w ∈ wsX10_goToStart := fun w h => List.mem_cons_of_mem _ (List.mem_append_right _ (h))
  subst hsz
  have hD := hD0.self (sz := s.heap.size)
  generalize hAe : va_A (cw_w C L K z r A) s.heap.size = Ad at hD ⊢
  have hA : ∀ q : Nat, s.heap.size ≤ q → Ad q := fun q h => by rw [← hAe]; exact Or.inr h
  have hS : va_S Ad s.heap s.heap [] := va_S.rf
  have hl := lv_entry ([.ref y0]) (n := 1) (Nat.le_of_ble_eq_true rfl)
  rw [lg_entry_eq]
  generalize (lg_sl ([.ref y0]) ++ List.replicate (1 - (lg_sl ([.ref y0])).length) Slot.unset).toArray = ls at hl ⊢
  have hl : lv_has ls 1 [(0, .ref y0)] := hl
  refine mw_Q (fun QQ hQQ => ?_)
  have hP0 := hP; have hD0 := hD; have hS0 := hS; have hl0 := hl; have hw0 := hw
  clear hP hD hS hl hw
  have hP := hP0; have hD := hD0; have hS := hS0; have hl := hl0; have hw := hw0
  obtain ⟨H, hH⟩ : ∃ H : Heap, H = s.heap := ⟨_, rfl⟩
  obtain ⟨locs, hlocs⟩ : ∃ L : List Loc, L = [] := ⟨_, rfl⟩
  rw [← hH] at hP
  have hS : va_S Ad s.heap H locs := by rw [hH, hlocs]; exact hS
  refine mw_HL hH hlocs ?_
  refine lv_aload_n hx hb dX10_goToStart_0 rfl (lv_at hl 0 rfl) ?_
  refine lv_iconst (v := hz_i 0) hx hb dX10_goToStart_1 (by decide +kernel) ?_
  obtain ⟨hO_1, hw⟩ := hw
  refine cw_putz (ci := 10) (ty := .int) (v := .int (hz_i 0)) (x := 0) hx hb hts hin10 tyX10 tyX10_ok nmX10 hown hK hP hD hS hO_1.1 hO_1.2 rfl 5 (by decide) (hts (.fieldLink RX10 28 "HiddenMoves$Words" "behind" "I") (List.mem_cons_of_mem _ (List.mem_append_left _ (List.mem_of_getElem? (i := 0) rfl)))) (fun _ h9 => h9) rfl (by decide +kernel) rfl rfl (Nat.le_of_ble_eq_true rfl) (cw_z10_5 _ _ _) dX10_goToStart_2 (fun H locs hP hD hS => ?_)
  obtain ⟨z_2, hz_2⟩ : ∃ y : Nat → Nat → Int, y = cw_s z y0 5 0 := ⟨_, rfl⟩
  rw [← hz_2] at hP hD
  have hw := hw z_2 hz_2
  refine lv_aload_n hx hb dX10_goToStart_5 rfl (lv_at hl 0 rfl) ?_
  have hFc := cw_free hD hS hA
  obtain ⟨q9, hq9⟩ := cw_at (C := C) (z := z_2) (r := r) (A := A) hO_1.1 hO_1.2
  refine va_callv (va_runV (As := []) (rest := []) ⟨hx, hb, hml, hown, hts⟩ (k_c10_advance l D _ C L K z_2 r A y0 _ hw) (cwV 0 hts gX10_goToStart_X10_advance rfl rfl rfl (by decide +kernel) ⟨Nat.le_of_ble_eq_true rfl, Nat.le_of_ble_eq_true rfl⟩) ⟨hm_blind, va_recv hK hP (ci := 10) (q0 := q9) rfl hq9, hm_pre hP hK hD hE⟩ rfl rfl hl.1 rfl (lv_room (Nat.le_of_ble_eq_true rfl)) dX10_goToStart_6 ⟨Nat.le_of_ble_eq_true rfl, Nat.le_of_ble_eq_true rfl⟩) hS (fun q _ h => hFc q h) hFc (fun u t H1 locs ht hvm hw hB hz1 hk1 hS => ?_)
  obtain ⟨rv_3, z_4, _, _⟩ := u
  obtain ⟨hP, hK1, hD1⟩ := hB
  rw [ht] at hP
  have hD := hD1.weaken (fun k q _ h => hFc q.1 h)
  have hP : va_P D vwCl (cw_w C L K z_4 r A) H1 := hP
  have hD : va_D Ad (cw_w C L K z_4 r A) := hD
  generalize H1 = H at hP hS ⊢
  refine W.eq (g2 := F0 m 9 ls []) rfl ?_
  subst hQQ
  subst hAe
  exact W.vret hx hb hr (fun t ht hW => ⟨⟨(0, z_4, r, A), rfl, hw, by rw [ht]; exact hP, va_K.moved hW.alike hK, hD⟩, hS.F ht⟩) hS.2.2 dX10_goToStart_9

noncomputable def wp_c11_character_22 (L : List Nat) (K : Nat → cw_K) (z : Nat → Nat → Int) (r : Nat → Nat → Nat) (A : Nat → Nat → Int) (t0 : Int) (Q : Int → Prop) : Prop := Q t0
noncomputable def wp_c11_character_21 (L : List Nat) (K : Nat → cw_K) (z : Nat → Nat → Int) (r : Nat → Nat → Nat) (A : Nat → Nat → Int) (Q : Int → Prop) : Prop := wp_c11_character_22 L K z r A (-1)  Q
noncomputable def wp_c11_character (L : List Nat) (K : Nat → cw_K) (z : Nat → Nat → Int) (r : Nat → Nat → Nat) (A : Nat → Nat → Int) (y0 : Nat) (y1 : Int) (Q : Int → Prop) : Prop := hz_rI y1 ∧ ((y1 < 0 → wp_c11_character_21 L K z r A  Q) ∧ (¬ (y1 < 0) → cw_O L K 11 y0 ∧ hz_rI y1 ∧ hz_rI (z y0 2) ∧ ((z y0 2 ≤ y1 → wp_c11_character_21 L K z r A  Q) ∧ (¬ (z y0 2 ≤ y1) → cw_A L K 2 (r y0 1) ∧ ((0 : Int) ≤ y1 ∧ y1 < (cw_n K (r y0 1) : Int)) ∧ wp_c11_character_22 L K z r A (A (r y0 1) (y1.toNat))  Q))))
set_option maxHeartbeats 4000000 in
set_option maxRecDepth 100000 in
theorem k_c11_character (l : Launch) (D : va_G) (sz : Nat) (C : Nat → ClassId) (L : List Nat) (K : Nat → cw_K) (z : Nat → Nat → Int) (r : Nat → Nat → Nat) (A : Nat → Nat → Int) (y0 : Nat) (y1 : Int) (Q : Int → Prop) (hw : wp_c11_character L K z r A y0 y1 Q) : Met l yX11_character wsX11_character ({ frames := 0, cells := 0, slots := 0, locals := 0 } : Room) (va_Pc [.ref y0, .int (hz_i y1)] (hm_P D (cw_w C L K z r A) (cw_t C) sz)) (va_Qi (S := Int × (Nat → Nat → Int) × (Nat → Nat → Nat) × (Nat → Nat → Int)) (fun r u => r = hz_i u.1 ∧ Q u.1) (fun u t => hm_B D (va_A (cw_w C L K z r A) sz) (cw_w C L K z r A) (cw_t C) t) (va_A (cw_w C L K z r A) sz)) 0 0 (va_A (cw_w C L K z r A) sz) := by
  refine Met.ofW (cc := cX11_character) (maxL := 2) (ret := (some .int)) (by decide) rfl ?_
  intro p e s m args below meth c s₁ B hml hv
  obtain ⟨rfl, hsz, hP, hK, hD0, hE⟩ := hv
  have hx := B.exec
  have hb := B.bytes
  have hr := B.returns
  have hts := atoms_spec (ws := wsX11_character) B.pre
  have hown : s.vm.findClass RX11 = some m.cls := findClass_of_methodNamed B.named
  have hlocks := B.notSynchronized
  have hin11 : ∀ w ∈ u_ws RX11 TX11 16, w ∈ wsX11_character := fun w h => List.mem_cons_of_mem _ (List.mem_append_right _ (h))
  subst hsz
  have hD := hD0.self (sz := s.heap.size)
  generalize hAe : va_A (cw_w C L K z r A) s.heap.size = Ad at hD ⊢
  have hA : ∀ q : Nat, s.heap.size ≤ q → Ad q := fun q h => by rw [← hAe]; exact Or.inr h
  have hS : va_S Ad s.heap s.heap [] := va_S.rf
  have hl := lv_entry ([.ref y0, .int (hz_i y1)]) (n := 2) (Nat.le_of_ble_eq_true rfl)
  rw [lg_entry_eq]
  generalize (lg_sl ([.ref y0, .int (hz_i y1)]) ++ List.replicate (2 - (lg_sl ([.ref y0, .int (hz_i y1)])).length) Slot.unset).toArray = ls at hl ⊢
  have hl : lv_has ls 2 [(0, .ref y0), (1, .int (hz_i y1))] := hl
  refine mw_Q (fun QQ hQQ => ?_)
  have hP0 := hP; have hD0 := hD; have hS0 := hS; have hl0 := hl; have hw0 := hw
  clear hP hD hS hl hw
  have L22 : ∀ (t0 : Int), wp_c11_character_22 L K z r A t0  Q → ∀ (H : Heap) (locs : List Loc) (ls : Array Slot), va_P D vwCl (cw_w C L K z r A) H → va_D Ad (cw_w C L K z r A) → va_S Ad s.heap H locs → lv_has ls 2 [] → W p l e (headSpec wsX11_character ({ frames := 0, cells := 0, slots := 0, locals := 0 } : Room)).room s m (List.toArray [.ref y0, .int (hz_i y1)]) below meth c H locs 0 0 QQ (F0 m 22 ls [.int (hz_i t0)]) := by
    intro t0 hw H locs ls hP hD hS hl
    subst hQQ
    subst hAe
    exact W.iret (v := hz_i t0) hx hb hr (fun t ht hW => ⟨⟨hz_i t0, (t0, z, r, A), rfl, ⟨rfl, hw⟩, by rw [ht]; exact hP, va_K.moved hW.alike hK, hD⟩, hS.F ht⟩) hS.2.2 dX11_character_22
  have L21 : wp_c11_character_21 L K z r A  Q → ∀ (H : Heap) (locs : List Loc) (ls : Array Slot), va_P D vwCl (cw_w C L K z r A) H → va_D Ad (cw_w C L K z r A) → va_S Ad s.heap H locs → lv_has ls 2 [] → W p l e (headSpec wsX11_character ({ frames := 0, cells := 0, slots := 0, locals := 0 } : Room)).room s m (List.toArray [.ref y0, .int (hz_i y1)]) below meth c H locs 0 0 QQ (F0 m 21 ls []) := by
    intro  hw H locs ls hP hD hS hl
    refine lv_iconst (v := hz_i (-1)) hx hb dX11_character_21 (by decide +kernel) ?_
    exact L22 (-1) hw H locs ls hP hD hS (lv_sub hl [] rfl)
  have hP := hP0; have hD := hD0; have hS := hS0; have hl := hl0; have hw := hw0
  obtain ⟨H, hH⟩ : ∃ H : Heap, H = s.heap := ⟨_, rfl⟩
  obtain ⟨locs, hlocs⟩ : ∃ L : List Loc, L = [] := ⟨_, rfl⟩
  rw [← hH] at hP
  have hS : va_S Ad s.heap H locs := by rw [hH, hlocs]; exact hS
  refine mw_HL hH hlocs ?_
  refine lv_iload_n hx hb dX11_character_0 rfl (lv_at hl 1 rfl) ?_
  obtain ⟨h9a, hw⟩ := hw
  refine hz_if_lt (tgt := 21) hx hb dX11_character_1 (by decide) h9a (fun c_1 => ?_) (fun c_1 => ?_)
  · have hw := hw.1 c_1
    exact L21  hw H locs ls hP hD hS (lv_sub hl [] rfl)
  · have hw := hw.2 c_1
    refine lv_iload_n hx hb dX11_character_4 rfl (lv_at hl 1 rfl) ?_
    refine lv_aload_n hx hb dX11_character_5 rfl (lv_at hl 0 rfl) ?_
    obtain ⟨hO_2, hw⟩ := hw
    refine cw_get (ci := 11) (v := .int (hz_i (z y0 2))) hx hb hts hin11 hown hK hP hO_2.1 hO_2.2 rfl 2 (by decide) (hts (.fieldLink RX11 20 "HiddenMoves" "printedLength" "I") (List.mem_cons_of_mem _ (List.mem_append_left _ (List.mem_of_getElem? (i := 0) rfl)))) (fun _ h9 => h9) rfl dX11_character_6 ?_
    obtain ⟨h9a, hw⟩ := hw
    obtain ⟨h9b, hw⟩ := hw
    refine hz_icmp_ge (tgt := 21) hx hb dX11_character_9 (by decide) h9a h9b (fun c_3 => ?_) (fun c_3 => ?_)
    · have hw := hw.1 c_3
      exact L21  hw H locs ls hP hD hS (lv_sub hl [] rfl)
    · have hw := hw.2 c_3
      refine lv_aload_n hx hb dX11_character_12 rfl (lv_at hl 0 rfl) ?_
      refine cw_get (ci := 11) (v := .ref (r y0 1)) hx hb hts hin11 hown hK hP hO_2.1 hO_2.2 rfl 1 (by decide) (hts (.fieldLink RX11 16 "HiddenMoves" "printed" "[C") (List.mem_cons_of_mem _ (List.mem_append_left _ (List.mem_of_getElem? (i := 1) rfl)))) (fun _ h9 => h9) rfl dX11_character_13 ?_
      refine lv_iload_n hx hb dX11_character_16 rfl (lv_at hl 1 rfl) ?_
      obtain ⟨hO_4, hw⟩ := hw
      obtain ⟨h9i, hw⟩ := hw
      refine cw_cld hx hb hK hP hO_4.1 hO_4.2.2 h9i hO_4.2.1 dX11_character_17 ?_
      refine lv_goto (tgt := 22) hx hb dX11_character_18 (by decide) ?_
      exact L22 (A (r y0 1) (y1.toNat)) hw H locs ls hP hD hS (lv_sub hl [] rfl)

noncomputable def wp_c3_isMix_132 (L : List Nat) (K : Nat → cw_K) (z : Nat → Nat → Int) (r : Nat → Nat → Nat) (A : Nat → Nat → Int) (t0 : Int) (Q : Int → (Nat → Nat → Int) → (Nat → Nat → Int) → Prop) : Prop := (t0 = 0 ∨ t0 = 1) ∧ Q t0 z A
noncomputable def wp_c3_isMix_50 (L : List Nat) (K : Nat → cw_K) (z : Nat → Nat → Int) (r : Nat → Nat → Nat) (A : Nat → Nat → Int) (y0 : Nat) (y1 : Nat) (x2 : Int) (x3 : Int) (P32 : (Nat → Nat → Int) → (Nat → Nat → Int) → Int → Prop) (Q : Int → (Nat → Nat → Int) → (Nat → Nat → Int) → Prop) : Prop := ∀ P50 : (Nat → Nat → Int) → (Nat → Nat → Int) → Int → Prop, (∀ (z : Nat → Nat → Int) (A : Nat → Nat → Int) (x3 : Int), cw_O L K 7 y1 ∧ cw_A L K 0 (r y1 2) ∧ ((0 : Int) ≤ x2 ∧ x2 < (cw_n K (r y1 2) : Int)) ∧ hz_rI x3 ∧ hz_rI (A (r y1 2) (x2.toNat)) ∧ ((A (r y1 2) (x2.toNat) ≤ x3 → cw_O L K 3 y0 ∧ cw_A L K 0 (r y1 7) ∧ ((0 : Int) ≤ x2 ∧ x2 < (cw_n K (r y1 7) : Int)) ∧ cw_G L K 4 (r y0 0) ∧ ((0 : Int) ≤ A (r y1 7) (x2.toNat) ∧ A (r y1 7) (x2.toNat) < (cw_n K (r y0 0) : Int)) ∧ cw_O L K 0 (r y0 1) ∧ wp_c0_order L K z r A (r y0 1) (cw_g K (r y0 0) ((A (r y1 7) (x2.toNat)).toNat)) (fun rv_7 => hz_rI rv_7 ∧ ((rv_7 = 0 → ∀ x2_10 : Int, x2_10 = x2 + 1 → P32 z A x2_10) ∧ (¬ (rv_7 = 0) → Q 0 z A)))) ∧ (¬ (A (r y1 2) (x2.toNat) ≤ x3) → cw_O L K 3 y0 ∧ cw_A L K 0 (r y1 6) ∧ ((0 : Int) ≤ x2 ∧ x2 < (cw_n K (r y1 6) : Int)) ∧ cw_G L K 4 (r y0 0) ∧ ((0 : Int) ≤ (A (r y1 6) (x2.toNat)) + x3 ∧ (A (r y1 6) (x2.toNat)) + x3 < (cw_n K (r y0 0) : Int)) ∧ cw_O L K 0 (r y0 1) ∧ wp_c0_plus L K z r A (r y0 1) (cw_g K (r y0 0) (((A (r y1 6) (x2.toNat)) + x3).toNat)) (fun z_15 A_16 => ∀ x3_18 : Int, x3_18 = x3 + 1 → P50 z_15 A_16 x3_18))) → P50 z A x3) → P50 z A x3
noncomputable def wp_c3_isMix_32 (L : List Nat) (K : Nat → cw_K) (z : Nat → Nat → Int) (r : Nat → Nat → Nat) (A : Nat → Nat → Int) (y0 : Nat) (y1 : Nat) (x2 : Int) (Q : Int → (Nat → Nat → Int) → (Nat → Nat → Int) → Prop) : Prop := ∀ P32 : (Nat → Nat → Int) → (Nat → Nat → Int) → Int → Prop, (∀ (z : Nat → Nat → Int) (A : Nat → Nat → Int) (x2 : Int), cw_O L K 7 y1 ∧ hz_rI x2 ∧ hz_rI (z y1 0) ∧ ((z y1 0 ≤ x2 → cw_O L K 3 y0 ∧ cw_G L K 4 (r y0 0) ∧ ((0 : Int) ≤ 0 ∧ 0 < (cw_n K (r y0 0) : Int)) ∧ cw_O L K 0 (cw_g K (r y0 0) ((0 : Int).toNat)) ∧ wp_c0_sign L K z r A (cw_g K (r y0 0) ((0 : Int).toNat)) (fun rv_23 => hz_rI rv_23 ∧ ((rv_23 ≤ 0 → wp_c3_isMix_132 L K z r A 0  Q) ∧ (¬ (rv_23 ≤ 0) → wp_c3_isMix_132 L K z r A 1  Q)))) ∧ (¬ (z y1 0 ≤ x2) → cw_O L K 3 y0 ∧ cw_O L K 0 (r y0 1) ∧ wp_c0_put L K z r A (r y0 1) 0 (fun z_28 A_29 => wp_c3_isMix_50 L K z_28 r A_29 y0 y1 x2 0 P32 Q))) → P32 z A x2) → P32 z A x2
noncomputable def wp_c3_isMix_2 (L : List Nat) (K : Nat → cw_K) (z : Nat → Nat → Int) (r : Nat → Nat → Nat) (A : Nat → Nat → Int) (y0 : Nat) (y1 : Nat) (x2 : Int) (Q : Int → (Nat → Nat → Int) → (Nat → Nat → Int) → Prop) : Prop := ∀ P2 : Int → Prop, (∀ (x2 : Int), cw_O L K 7 y1 ∧ hz_rI x2 ∧ hz_rI (z y1 5) ∧ ((z y1 5 ≤ x2 → wp_c3_isMix_32 L K z r A y0 y1 0  Q) ∧ (¬ (z y1 5 ≤ x2) → cw_O L K 3 y0 ∧ cw_G L K 4 (r y0 0) ∧ ((0 : Int) ≤ x2 ∧ x2 < (cw_n K (r y0 0) : Int)) ∧ cw_O L K 0 (cw_g K (r y0 0) (x2.toNat)) ∧ wp_c0_sign L K z r A (cw_g K (r y0 0) (x2.toNat)) (fun rv_35 => hz_rI rv_35 ∧ ((0 ≤ rv_35 → ∀ x2_38 : Int, x2_38 = x2 + 1 → P2 x2_38) ∧ (¬ (0 ≤ rv_35) → Q 0 z A))))) → P2 x2) → P2 x2
noncomputable def wp_c3_isMix (L : List Nat) (K : Nat → cw_K) (z : Nat → Nat → Int) (r : Nat → Nat → Nat) (A : Nat → Nat → Int) (y0 : Nat) (y1 : Nat) (Q : Int → (Nat → Nat → Int) → (Nat → Nat → Int) → Prop) : Prop := wp_c3_isMix_2 L K z r A y0 y1 0  Q
set_option maxHeartbeats 4000000 in
set_option maxRecDepth 100000 in
theorem k_c3_isMix (l : Launch) (D : va_G) (sz : Nat) (C : Nat → ClassId) (L : List Nat) (K : Nat → cw_K) (z : Nat → Nat → Int) (r : Nat → Nat → Nat) (A : Nat → Nat → Int) (y0 : Nat) (y1 : Nat) (Q : Int → (Nat → Nat → Int) → (Nat → Nat → Int) → Prop) (hw : wp_c3_isMix L K z r A y0 y1 Q) : Met l yX3_isMix wsX3_isMix ({ frames := 3, cells := 0, slots := 0, locals := 72 } : Room) (va_Pc [.ref y0, .ref y1] (hm_P D (cw_w C L K z r A) (cw_t C) sz)) (va_Qi (S := Int × (Nat → Nat → Int) × (Nat → Nat → Nat) × (Nat → Nat → Int)) (fun r u => r = hz_i u.1 ∧ Q u.1 u.2.1 u.2.2.2) (fun u t => hm_B D (va_A (cw_w C L K z r A) sz) (cw_w C L K u.2.1 r u.2.2.2) (cw_t C) t) (va_A (cw_w C L K z r A) sz)) 0 0 (va_A (cw_w C L K z r A) sz) := by
  refine Met.ofW (cc := cX3_isMix) (maxL := 4) (ret := (some .boolean)) (by decide) rfl ?_
  intro p e s m args below meth c s₁ B hml hv
  obtain ⟨rfl, hsz, hP, hK, hD0, hE⟩ := hv
  have hx := B.exec
  have hb := B.bytes
  have hr := B.returns
  have hts := atoms_spec (ws := wsX3_isMix) B.pre
  have hown : s.vm.findClass RX3 = some m.cls := findClass_of_methodNamed B.named
  have hlocks := B.notSynchronized
  have hin3 : ∀ w ∈ u_ws RX3 TX3 2, w ∈ wsX3_isMix := fun w h => List.mem_cons_of_mem _ (List.mem_append_left _ (List.mem_append_right _ (h)))
  have hin7 : ∀ w ∈ u_ws RX7 TX7 8, w ∈ wsX3_isMix := fun w h => List.mem_cons_of_mem _ (List.mem_append_left _ (List.mem_append_left _ (List.mem_append_right _ (h))))
  subst hsz
  have hD := hD0.self (sz := s.heap.size)
  generalize hAe : va_A (cw_w C L K z r A) s.heap.size = Ad at hD ⊢
  have hA : ∀ q : Nat, s.heap.size ≤ q → Ad q := fun q h => by rw [← hAe]; exact Or.inr h
  have hS : va_S Ad s.heap s.heap [] := va_S.rf
  have hl := lv_entry ([.ref y0, .ref y1]) (n := 4) (Nat.le_of_ble_eq_true rfl)
  rw [lg_entry_eq]
  generalize (lg_sl ([.ref y0, .ref y1]) ++ List.replicate (4 - (lg_sl ([.ref y0, .ref y1])).length) Slot.unset).toArray = ls at hl ⊢
  have hl : lv_has ls 4 [(0, .ref y0), (1, .ref y1)] := hl
  refine mw_Q (fun QQ hQQ => ?_)
  have hP0 := hP; have hD0 := hD; have hS0 := hS; have hl0 := hl; have hw0 := hw
  clear hP hD hS hl hw
  have L132 : ∀ (z : Nat → Nat → Int) (A : Nat → Nat → Int) (t0 : Int), wp_c3_isMix_132 L K z r A t0  Q → ∀ (H : Heap) (locs : List Loc) (ls : Array Slot), va_P D vwCl (cw_w C L K z r A) H → va_D Ad (cw_w C L K z r A) → va_S Ad s.heap H locs → lv_has ls 4 [] → W p l e (headSpec wsX3_isMix ({ frames := 3, cells := 0, slots := 0, locals := 72 } : Room)).room s m (List.toArray [.ref y0, .ref y1]) below meth c H locs 0 0 QQ (F0 m 132 ls [.int (hz_i t0)]) := by
    intro z A t0 hw H locs ls hP hD hS hl
    obtain ⟨h9z, hw⟩ := hw
    subst hQQ
    subst hAe
    exact W.zret (v := hz_i t0) hx hb hr (hz_tZ h9z) (fun t ht hW => ⟨⟨hz_i t0, (t0, z, r, A), rfl, ⟨rfl, hw⟩, by rw [ht]; exact hP, va_K.moved hW.alike hK, hD⟩, hS.F ht⟩) hS.2.2 dX3_isMix_132
  have L32 : ∀ (z : Nat → Nat → Int) (A : Nat → Nat → Int) (x2 : Int), wp_c3_isMix_32 L K z r A y0 y1 x2  Q → ∀ (H : Heap) (locs : List Loc) (ls : Array Slot), va_P D vwCl (cw_w C L K z r A) H → va_D Ad (cw_w C L K z r A) → va_S Ad s.heap H locs → lv_has ls 4 [(0, .ref y0), (1, .ref y1), (2, .int (hz_i x2))] → W p l e (headSpec wsX3_isMix ({ frames := 3, cells := 0, slots := 0, locals := 72 } : Room)).room s m (List.toArray [.ref y0, .ref y1]) below meth c H locs 0 0 QQ (F0 m 32 ls []) := by
    intro z A x2 hw
    obtain ⟨P32, hP32⟩ : ∃ P : (Nat → Nat → Int) → (Nat → Nat → Int) → Int → Prop, ∀ (z : Nat → Nat → Int) (A : Nat → Nat → Int) (x2 : Int), P z A x2 ↔ (∀ (H : Heap) (locs : List Loc) (ls : Array Slot), va_P D vwCl (cw_w C L K z r A) H → va_D Ad (cw_w C L K z r A) → va_S Ad s.heap H locs → lv_has ls 4 [(0, .ref y0), (1, .ref y1), (2, .int (hz_i x2))] → W p l e (headSpec wsX3_isMix ({ frames := 3, cells := 0, slots := 0, locals := 72 } : Room)).room s m (List.toArray [.ref y0, .ref y1]) below meth c H locs 0 0 QQ (F0 m 32 ls [])) := ⟨fun (z : Nat → Nat → Int) (A : Nat → Nat → Int) (x2 : Int) => ∀ (H : Heap) (locs : List Loc) (ls : Array Slot), va_P D vwCl (cw_w C L K z r A) H → va_D Ad (cw_w C L K z r A) → va_S Ad s.heap H locs → lv_has ls 4 [(0, .ref y0), (1, .ref y1), (2, .int (hz_i x2))] → W p l e (headSpec wsX3_isMix ({ frames := 3, cells := 0, slots := 0, locals := 72 } : Room)).room s m (List.toArray [.ref y0, .ref y1]) below meth c H locs 0 0 QQ (F0 m 32 ls []), fun _ _ _ => Iff.rfl⟩
    refine (hP32 z A x2).mp (hw P32 ?_)
    intro z A x2 hw
    refine (hP32 z A x2).mpr ?_
    intro H locs ls hP hD hS hl
    have L50 : ∀ (z : Nat → Nat → Int) (A : Nat → Nat → Int) (x2 : Int) (x3 : Int), wp_c3_isMix_50 L K z r A y0 y1 x2 x3 P32 Q → ∀ (H : Heap) (locs : List Loc) (ls : Array Slot), va_P D vwCl (cw_w C L K z r A) H → va_D Ad (cw_w C L K z r A) → va_S Ad s.heap H locs → lv_has ls 4 [(0, .ref y0), (1, .ref y1), (2, .int (hz_i x2)), (3, .int (hz_i x3))] → W p l e (headSpec wsX3_isMix ({ frames := 3, cells := 0, slots := 0, locals := 72 } : Room)).room s m (List.toArray [.ref y0, .ref y1]) below meth c H locs 0 0 QQ (F0 m 50 ls []) := by
      intro z A x2 x3 hw
      obtain ⟨P50, hP50⟩ : ∃ P : (Nat → Nat → Int) → (Nat → Nat → Int) → Int → Prop, ∀ (z : Nat → Nat → Int) (A : Nat → Nat → Int) (x3 : Int), P z A x3 ↔ (∀ (H : Heap) (locs : List Loc) (ls : Array Slot), va_P D vwCl (cw_w C L K z r A) H → va_D Ad (cw_w C L K z r A) → va_S Ad s.heap H locs → lv_has ls 4 [(0, .ref y0), (1, .ref y1), (2, .int (hz_i x2)), (3, .int (hz_i x3))] → W p l e (headSpec wsX3_isMix ({ frames := 3, cells := 0, slots := 0, locals := 72 } : Room)).room s m (List.toArray [.ref y0, .ref y1]) below meth c H locs 0 0 QQ (F0 m 50 ls [])) := ⟨fun (z : Nat → Nat → Int) (A : Nat → Nat → Int) (x3 : Int) => ∀ (H : Heap) (locs : List Loc) (ls : Array Slot), va_P D vwCl (cw_w C L K z r A) H → va_D Ad (cw_w C L K z r A) → va_S Ad s.heap H locs → lv_has ls 4 [(0, .ref y0), (1, .ref y1), (2, .int (hz_i x2)), (3, .int (hz_i x3))] → W p l e (headSpec wsX3_isMix ({ frames := 3, cells := 0, slots := 0, locals := 72 } : Room)).room s m (List.toArray [.ref y0, .ref y1]) below meth c H locs 0 0 QQ (F0 m 50 ls []), fun _ _ _ => Iff.rfl⟩
      refine (hP50 z A x3).mp (hw P50 ?_)
      intro z A x3 hw
      refine (hP50 z A x3).mpr ?_
      intro H locs ls hP hD hS hl
      refine lv_iload_n hx hb dX3_isMix_50 rfl (lv_at hl 3 rfl) ?_
      refine lv_aload_n hx hb dX3_isMix_51 rfl (lv_at hl 1 rfl) ?_
      obtain ⟨hO_1, hw⟩ := hw
      refine cw_get (ci := 7) (v := .ref (r y1 2)) hx hb hts hin7 hown hK hP hO_1.1 hO_1.2 rfl 2 (by decide) (hts (.fieldLink RX3 41 "HiddenMoves$Side" "moves" "[I") (List.mem_cons_of_mem _ (List.mem_append_left _ (List.mem_append_left _ (List.mem_append_left _ (List.mem_append_left _ (List.mem_of_getElem? (i := 4) rfl))))))) (fun _ h9 => h9) rfl dX3_isMix_52 ?_
      refine lv_iload_n hx hb dX3_isMix_55 rfl (lv_at hl 2 rfl) ?_
      obtain ⟨hO_2, hw⟩ := hw
      obtain ⟨h9i, hw⟩ := hw
      refine cw_ild hx hb hK hP hO_2.1 hO_2.2.2 h9i hO_2.2.1 dX3_isMix_56 ?_
      obtain ⟨h9a, hw⟩ := hw
      obtain ⟨h9b, hw⟩ := hw
      refine hz_icmp_ge (tgt := 86) hx hb dX3_isMix_57 (by decide) h9a h9b (fun c_3 => ?_) (fun c_3 => ?_)
      · have hw := hw.1 c_3
        refine lv_aload_n hx hb dX3_isMix_86 rfl (lv_at hl 0 rfl) ?_
        obtain ⟨hO_4, hw⟩ := hw
        refine cw_get (ci := 3) (v := .ref (r y0 1)) hx hb hts hin3 hown hK hP hO_4.1 hO_4.2 rfl 1 (by decide) (hts (.fieldLink RX3 20 "HiddenMoves$Mix" "sum" "LHiddenMoves$Big;") (List.mem_cons_of_mem _ (List.mem_append_left _ (List.mem_append_left _ (List.mem_append_left _ (List.mem_append_left _ (List.mem_of_getElem? (i := 3) rfl))))))) (fun _ h9 => h9) rfl dX3_isMix_87 ?_
        refine lv_aload_n hx hb dX3_isMix_90 rfl (lv_at hl 0 rfl) ?_
        refine cw_get (ci := 3) (v := .ref (r y0 0)) hx hb hts hin3 hown hK hP hO_4.1 hO_4.2 rfl 0 (by decide) (hts (.fieldLink RX3 11 "HiddenMoves$Mix" "parts" "[LHiddenMoves$Big;") (List.mem_cons_of_mem _ (List.mem_append_left _ (List.mem_append_left _ (List.mem_append_left _ (List.mem_append_left _ (List.mem_of_getElem? (i := 1) rfl))))))) (fun _ h9 => h9) rfl dX3_isMix_91 ?_
        refine lv_aload_n hx hb dX3_isMix_94 rfl (lv_at hl 1 rfl) ?_
        refine cw_get (ci := 7) (v := .ref (r y1 7)) hx hb hts hin7 hown hK hP hO_1.1 hO_1.2 rfl 7 (by decide) (hts (.fieldLink RX3 52 "HiddenMoves$Side" "parentLines" "[I") (List.mem_cons_of_mem _ (List.mem_append_left _ (List.mem_append_left _ (List.mem_append_left _ (List.mem_append_left _ (List.mem_of_getElem? (i := 6) rfl))))))) (fun _ h9 => h9) rfl dX3_isMix_95 ?_
        refine lv_iload_n hx hb dX3_isMix_98 rfl (lv_at hl 2 rfl) ?_
        obtain ⟨hO_5, hw⟩ := hw
        obtain ⟨h9i, hw⟩ := hw
        refine cw_ild hx hb hK hP hO_5.1 hO_5.2.2 h9i hO_5.2.1 dX3_isMix_99 ?_
        obtain ⟨hO_6, hw⟩ := hw
        obtain ⟨h9i, hw⟩ := hw
        refine cw_ald hx hb hK hP hO_6.1 hO_6.2.2 rfl h9i hO_6.2.1 dX3_isMix_100 ?_
        obtain ⟨hO_8, hw⟩ := hw
        have hFc := cw_free hD hS hA
        obtain ⟨q9, hq9⟩ := cw_at (C := C) (z := z) (r := r) (A := A) hO_8.1 hO_8.2
        refine va_calli (va_runV (As := [.ref (cw_g K (r y0 0) ((A (r y1 7) (x2.toNat)).toNat))]) (rest := []) ⟨hx, hb, hml, hown, hts⟩ (k_c0_order l D _ C L K z r A (r y0 1) (cw_g K (r y0 0) ((A (r y1 7) (x2.toNat)).toNat)) _ hw) (cwV 1 hts gX3_isMix_X0_order rfl rfl rfl (by decide +kernel) ⟨Nat.le_of_ble_eq_true rfl, Nat.le_of_ble_eq_true rfl⟩) ⟨hm_blind, va_recv hK hP (ci := 0) (q0 := q9) rfl hq9, hm_pre hP hK hD hE⟩ rfl rfl hl.1 rfl (lv_room (Nat.le_of_ble_eq_true rfl)) dX3_isMix_101 ⟨Nat.le_of_ble_eq_true rfl, Nat.le_of_ble_eq_true rfl⟩) hS (fun q _ h => hFc q h) hFc (fun rv u t H1 locs ht hvm hw hB hz1 hk1 hS => ?_)
        obtain ⟨rv_7, _, _, _⟩ := u
        obtain ⟨hP, hK1, hD1⟩ := hB
        rw [ht] at hP
        obtain ⟨hrv, hw⟩ := hw
        subst hrv
        have hD := hD1.weaken (fun k q _ h => hFc q.1 h)
        have hP : va_P D vwCl (cw_w C L K z r A) H1 := hP
        have hD : va_D Ad (cw_w C L K z r A) := hD
        generalize H1 = H at hP hS ⊢
        refine W.eq (g2 := F0 m 104 ls [.int (hz_i rv_7)]) rfl ?_
        obtain ⟨h9a, hw⟩ := hw
        refine hz_if_eq (tgt := 109) hx hb dX3_isMix_104 (by decide) h9a (fun c_9 => ?_) (fun c_9 => ?_)
        · have hw := hw.1 c_9
          obtain ⟨x2_10, hx2_10⟩ : ∃ y : Int, y = x2 + 1 := ⟨_, rfl⟩
          have hw := hw x2_10 hx2_10
          refine lv_iinc (v := hz_i x2_10) (lv' := [(2, .int (hz_i x2_10)), (0, .ref y0), (1, .ref y1), (3, .int (hz_i x3))]) hx hb dX3_isMix_109 hl (k := 2) rfl (by rw [hx2_10]; exact hz_i_add _ _) (by decide) rfl (fun ls hl => ?_)
          refine lv_goto (tgt := 32) hx hb dX3_isMix_112 (by decide) ?_
          exact (hP32 z A x2_10).mp hw H locs ls hP hD hS (lv_sub hl [1, 2, 0] rfl)
        · have hw := hw.2 c_9
          refine lv_iconst (v := hz_i 0) hx hb dX3_isMix_107 (by decide +kernel) ?_
          subst hQQ
          subst hAe
          exact W.zret (v := hz_i 0) hx hb hr (hz_tZ (by decide)) (fun t ht hW => ⟨⟨hz_i 0, (0, z, r, A), rfl, ⟨rfl, hw⟩, by rw [ht]; exact hP, va_K.moved hW.alike hK, hD⟩, hS.F ht⟩) hS.2.2 dX3_isMix_108
      · have hw := hw.2 c_3
        refine lv_aload_n hx hb dX3_isMix_60 rfl (lv_at hl 0 rfl) ?_
        obtain ⟨hO_11, hw⟩ := hw
        refine cw_get (ci := 3) (v := .ref (r y0 1)) hx hb hts hin3 hown hK hP hO_11.1 hO_11.2 rfl 1 (by decide) (hts (.fieldLink RX3 20 "HiddenMoves$Mix" "sum" "LHiddenMoves$Big;") (List.mem_cons_of_mem _ (List.mem_append_left _ (List.mem_append_left _ (List.mem_append_left _ (List.mem_append_left _ (List.mem_of_getElem? (i := 3) rfl))))))) (fun _ h9 => h9) rfl dX3_isMix_61 ?_
        refine lv_aload_n hx hb dX3_isMix_64 rfl (lv_at hl 0 rfl) ?_
        refine cw_get (ci := 3) (v := .ref (r y0 0)) hx hb hts hin3 hown hK hP hO_11.1 hO_11.2 rfl 0 (by decide) (hts (.fieldLink RX3 11 "HiddenMoves$Mix" "parts" "[LHiddenMoves$Big;") (List.mem_cons_of_mem _ (List.mem_append_left _ (List.mem_append_left _ (List.mem_append_left _ (List.mem_append_left _ (List.mem_of_getElem? (i := 1) rfl))))))) (fun _ h9 => h9) rfl dX3_isMix_65 ?_
        refine lv_aload_n hx hb dX3_isMix_68 rfl (lv_at hl 1 rfl) ?_
        refine cw_get (ci := 7) (v := .ref (r y1 6)) hx hb hts hin7 hown hK hP hO_1.1 hO_1.2 rfl 6 (by decide) (hts (.fieldLink RX3 45 "HiddenMoves$Side" "firstLines" "[I") (List.mem_cons_of_mem _ (List.mem_append_left _ (List.mem_append_left _ (List.mem_append_left _ (List.mem_append_left _ (List.mem_of_getElem? (i := 5) rfl))))))) (fun _ h9 => h9) rfl dX3_isMix_69 ?_
        refine lv_iload_n hx hb dX3_isMix_72 rfl (lv_at hl 2 rfl) ?_
        obtain ⟨hO_12, hw⟩ := hw
        obtain ⟨h9i, hw⟩ := hw
        refine cw_ild hx hb hK hP hO_12.1 hO_12.2.2 h9i hO_12.2.1 dX3_isMix_73 ?_
        refine lv_iload_n hx hb dX3_isMix_74 rfl (lv_at hl 3 rfl) ?_
        refine hz_iadd hx hb dX3_isMix_75 ?_
        obtain ⟨hO_13, hw⟩ := hw
        obtain ⟨h9i, hw⟩ := hw
        refine cw_ald hx hb hK hP hO_13.1 hO_13.2.2 rfl h9i hO_13.2.1 dX3_isMix_76 ?_
        obtain ⟨hO_17, hw⟩ := hw
        have hFc := cw_free hD hS hA
        obtain ⟨q9, hq9⟩ := cw_at (C := C) (z := z) (r := r) (A := A) hO_17.1 hO_17.2
        refine va_callv (va_runV (As := [.ref (cw_g K (r y0 0) (((A (r y1 6) (x2.toNat)) + x3).toNat))]) (rest := []) ⟨hx, hb, hml, hown, hts⟩ (k_c0_plus l D _ C L K z r A (r y0 1) (cw_g K (r y0 0) (((A (r y1 6) (x2.toNat)) + x3).toNat)) _ hw) (cwV 1 hts gX3_isMix_X0_plus rfl rfl rfl (by decide +kernel) ⟨Nat.le_of_ble_eq_true rfl, Nat.le_of_ble_eq_true rfl⟩) ⟨hm_blind, va_recv hK hP (ci := 0) (q0 := q9) rfl hq9, hm_pre hP hK hD hE⟩ rfl rfl hl.1 rfl (lv_room (Nat.le_of_ble_eq_true rfl)) dX3_isMix_77 ⟨Nat.le_of_ble_eq_true rfl, Nat.le_of_ble_eq_true rfl⟩) hS (fun q _ h => hFc q h) hFc (fun u t H1 locs ht hvm hw hB hz1 hk1 hS => ?_)
        obtain ⟨rv_14, z_15, _, A_16⟩ := u
        obtain ⟨hP, hK1, hD1⟩ := hB
        rw [ht] at hP
        have hD := hD1.weaken (fun k q _ h => hFc q.1 h)
        have hP : va_P D vwCl (cw_w C L K z_15 r A_16) H1 := hP
        have hD : va_D Ad (cw_w C L K z_15 r A_16) := hD
        generalize H1 = H at hP hS ⊢
        refine W.eq (g2 := F0 m 80 ls []) rfl ?_
        obtain ⟨x3_18, hx3_18⟩ : ∃ y : Int, y = x3 + 1 := ⟨_, rfl⟩
        have hw := hw x3_18 hx3_18
        refine lv_iinc (v := hz_i x3_18) (lv' := [(3, .int (hz_i x3_18)), (0, .ref y0), (1, .ref y1), (2, .int (hz_i x2))]) hx hb dX3_isMix_80 hl (k := 3) rfl (by rw [hx3_18]; exact hz_i_add _ _) (by decide) rfl (fun ls hl => ?_)
        refine lv_goto (tgt := 50) hx hb dX3_isMix_83 (by decide) ?_
        exact (hP50 z_15 A_16 x3_18).mp hw H locs ls hP hD hS (lv_sub hl [1, 2, 3, 0] rfl)
    refine lv_iload_n hx hb dX3_isMix_32 rfl (lv_at hl 2 rfl) ?_
    refine lv_aload_n hx hb dX3_isMix_33 rfl (lv_at hl 1 rfl) ?_
    obtain ⟨hO_19, hw⟩ := hw
    refine cw_get (ci := 7) (v := .int (hz_i (z y1 0))) hx hb hts hin7 hown hK hP hO_19.1 hO_19.2 rfl 0 (by decide) (hts (.fieldLink RX3 34 "HiddenMoves$Side" "sets" "I") (List.mem_cons_of_mem _ (List.mem_append_left _ (List.mem_append_left _ (List.mem_append_left _ (List.mem_append_left _ (List.mem_of_getElem? (i := 2) rfl))))))) (fun _ h9 => h9) rfl dX3_isMix_34 ?_
    obtain ⟨h9a, hw⟩ := hw
    obtain ⟨h9b, hw⟩ := hw
    refine hz_icmp_ge (tgt := 115) hx hb dX3_isMix_37 (by decide) h9a h9b (fun c_20 => ?_) (fun c_20 => ?_)
    · have hw := hw.1 c_20
      refine lv_aload_n hx hb dX3_isMix_115 rfl (lv_at hl 0 rfl) ?_
      obtain ⟨hO_21, hw⟩ := hw
      refine cw_get (ci := 3) (v := .ref (r y0 0)) hx hb hts hin3 hown hK hP hO_21.1 hO_21.2 rfl 0 (by decide) (hts (.fieldLink RX3 11 "HiddenMoves$Mix" "parts" "[LHiddenMoves$Big;") (List.mem_cons_of_mem _ (List.mem_append_left _ (List.mem_append_left _ (List.mem_append_left _ (List.mem_append_left _ (List.mem_of_getElem? (i := 1) rfl))))))) (fun _ h9 => h9) rfl dX3_isMix_116 ?_
      refine lv_iconst (v := hz_i 0) hx hb dX3_isMix_119 (by decide +kernel) ?_
      obtain ⟨hO_22, hw⟩ := hw
      obtain ⟨h9i, hw⟩ := hw
      refine cw_ald hx hb hK hP hO_22.1 hO_22.2.2 rfl h9i hO_22.2.1 dX3_isMix_120 ?_
      obtain ⟨hO_24, hw⟩ := hw
      have hFc := cw_free hD hS hA
      obtain ⟨q9, hq9⟩ := cw_at (C := C) (z := z) (r := r) (A := A) hO_24.1 hO_24.2
      refine va_calli (va_runV (As := []) (rest := []) ⟨hx, hb, hml, hown, hts⟩ (k_c0_sign l D _ C L K z r A (cw_g K (r y0 0) ((0 : Int).toNat)) _ hw) (cwV 0 hts gX3_isMix_X0_sign rfl rfl rfl (by decide +kernel) ⟨Nat.le_of_ble_eq_true rfl, Nat.le_of_ble_eq_true rfl⟩) ⟨hm_blind, va_recv hK hP (ci := 0) (q0 := q9) rfl hq9, hm_pre hP hK hD hE⟩ rfl rfl hl.1 rfl (lv_room (Nat.le_of_ble_eq_true rfl)) dX3_isMix_121 ⟨Nat.le_of_ble_eq_true rfl, Nat.le_of_ble_eq_true rfl⟩) hS (fun q _ h => hFc q h) hFc (fun rv u t H1 locs ht hvm hw hB hz1 hk1 hS => ?_)
      obtain ⟨rv_23, _, _, _⟩ := u
      obtain ⟨hP, hK1, hD1⟩ := hB
      rw [ht] at hP
      obtain ⟨hrv, hw⟩ := hw
      subst hrv
      have hD := hD1.weaken (fun k q _ h => hFc q.1 h)
      have hP : va_P D vwCl (cw_w C L K z r A) H1 := hP
      have hD : va_D Ad (cw_w C L K z r A) := hD
      generalize H1 = H at hP hS ⊢
      refine W.eq (g2 := F0 m 124 ls [.int (hz_i rv_23)]) rfl ?_
      obtain ⟨h9a, hw⟩ := hw
      refine hz_if_le (tgt := 131) hx hb dX3_isMix_124 (by decide) h9a (fun c_25 => ?_) (fun c_25 => ?_)
      · have hw := hw.1 c_25
        refine lv_iconst (v := hz_i 0) hx hb dX3_isMix_131 (by decide +kernel) ?_
        exact L132 z A 0 hw H locs ls hP hD hS (lv_sub hl [] rfl)
      · have hw := hw.2 c_25
        refine lv_iconst (v := hz_i 1) hx hb dX3_isMix_127 (by decide +kernel) ?_
        refine lv_goto (tgt := 132) hx hb dX3_isMix_128 (by decide) ?_
        exact L132 z A 1 hw H locs ls hP hD hS (lv_sub hl [] rfl)
    · have hw := hw.2 c_20
      refine lv_aload_n hx hb dX3_isMix_40 rfl (lv_at hl 0 rfl) ?_
      obtain ⟨hO_26, hw⟩ := hw
      refine cw_get (ci := 3) (v := .ref (r y0 1)) hx hb hts hin3 hown hK hP hO_26.1 hO_26.2 rfl 1 (by decide) (hts (.fieldLink RX3 20 "HiddenMoves$Mix" "sum" "LHiddenMoves$Big;") (List.mem_cons_of_mem _ (List.mem_append_left _ (List.mem_append_left _ (List.mem_append_left _ (List.mem_append_left _ (List.mem_of_getElem? (i := 3) rfl))))))) (fun _ h9 => h9) rfl dX3_isMix_41 ?_
      refine lv_lconst (v := hz_l 0) hx hb dX3_isMix_44 (by decide +kernel) ?_
      obtain ⟨hO_30, hw⟩ := hw
      have hFc := cw_free hD hS hA
      obtain ⟨q9, hq9⟩ := cw_at (C := C) (z := z) (r := r) (A := A) hO_30.1 hO_30.2
      refine va_callv (va_runV (As := [.long (hz_l 0)]) (rest := []) ⟨hx, hb, hml, hown, hts⟩ (k_c0_put l D _ C L K z r A (r y0 1) 0 _ hw) (cwV 1 hts gX3_isMix_X0_put rfl rfl rfl (by decide +kernel) ⟨Nat.le_of_ble_eq_true rfl, Nat.le_of_ble_eq_true rfl⟩) ⟨hm_blind, va_recv hK hP (ci := 0) (q0 := q9) rfl hq9, hm_pre hP hK hD hE⟩ rfl rfl hl.1 rfl (lv_room (Nat.le_of_ble_eq_true rfl)) dX3_isMix_45 ⟨Nat.le_of_ble_eq_true rfl, Nat.le_of_ble_eq_true rfl⟩) hS (fun q _ h => hFc q h) hFc (fun u t H1 locs ht hvm hw hB hz1 hk1 hS => ?_)
      obtain ⟨rv_27, z_28, _, A_29⟩ := u
      obtain ⟨hP, hK1, hD1⟩ := hB
      rw [ht] at hP
      have hD := hD1.weaken (fun k q _ h => hFc q.1 h)
      have hP : va_P D vwCl (cw_w C L K z_28 r A_29) H1 := hP
      have hD : va_D Ad (cw_w C L K z_28 r A_29) := hD
      generalize H1 = H at hP hS ⊢
      refine W.eq (g2 := F0 m 48 ls []) rfl ?_
      refine lv_iconst (v := hz_i 0) hx hb dX3_isMix_48 (by decide +kernel) ?_
      refine lv_istore_n (lv' := [(3, .int (hz_i 0)), (0, .ref y0), (1, .ref y1), (2, .int (hz_i x2))]) hx hb dX3_isMix_49 rfl hl (by decide) rfl (fun ls hl => ?_)
      exact L50 z_28 A_29 x2 0 hw H locs ls hP hD hS (lv_sub hl [1, 2, 3, 0] rfl)
  have L2 : ∀ (z : Nat → Nat → Int) (A : Nat → Nat → Int) (x2 : Int), wp_c3_isMix_2 L K z r A y0 y1 x2  Q → ∀ (H : Heap) (locs : List Loc) (ls : Array Slot), va_P D vwCl (cw_w C L K z r A) H → va_D Ad (cw_w C L K z r A) → va_S Ad s.heap H locs → lv_has ls 4 [(0, .ref y0), (1, .ref y1), (2, .int (hz_i x2))] → W p l e (headSpec wsX3_isMix ({ frames := 3, cells := 0, slots := 0, locals := 72 } : Room)).room s m (List.toArray [.ref y0, .ref y1]) below meth c H locs 0 0 QQ (F0 m 2 ls []) := by
    intro z A x2 hw
    obtain ⟨P2, hP2⟩ : ∃ P : Int → Prop, ∀ (x2 : Int), P x2 ↔ (∀ (H : Heap) (locs : List Loc) (ls : Array Slot), va_P D vwCl (cw_w C L K z r A) H → va_D Ad (cw_w C L K z r A) → va_S Ad s.heap H locs → lv_has ls 4 [(0, .ref y0), (1, .ref y1), (2, .int (hz_i x2))] → W p l e (headSpec wsX3_isMix ({ frames := 3, cells := 0, slots := 0, locals := 72 } : Room)).room s m (List.toArray [.ref y0, .ref y1]) below meth c H locs 0 0 QQ (F0 m 2 ls [])) := ⟨fun (x2 : Int) => ∀ (H : Heap) (locs : List Loc) (ls : Array Slot), va_P D vwCl (cw_w C L K z r A) H → va_D Ad (cw_w C L K z r A) → va_S Ad s.heap H locs → lv_has ls 4 [(0, .ref y0), (1, .ref y1), (2, .int (hz_i x2))] → W p l e (headSpec wsX3_isMix ({ frames := 3, cells := 0, slots := 0, locals := 72 } : Room)).room s m (List.toArray [.ref y0, .ref y1]) below meth c H locs 0 0 QQ (F0 m 2 ls []), fun _ => Iff.rfl⟩
    refine (hP2 x2).mp (hw P2 ?_)
    intro x2 hw
    refine (hP2 x2).mpr ?_
    intro H locs ls hP hD hS hl
    refine lv_iload_n hx hb dX3_isMix_2 rfl (lv_at hl 2 rfl) ?_
    refine lv_aload_n hx hb dX3_isMix_3 rfl (lv_at hl 1 rfl) ?_
    obtain ⟨hO_31, hw⟩ := hw
    refine cw_get (ci := 7) (v := .int (hz_i (z y1 5))) hx hb hts hin7 hown hK hP hO_31.1 hO_31.2 rfl 5 (by decide) (hts (.fieldLink RX3 24 "HiddenMoves$Side" "lines" "I") (List.mem_cons_of_mem _ (List.mem_append_left _ (List.mem_append_left _ (List.mem_append_left _ (List.mem_append_left _ (List.mem_of_getElem? (i := 0) rfl))))))) (fun _ h9 => h9) rfl dX3_isMix_4 ?_
    obtain ⟨h9a, hw⟩ := hw
    obtain ⟨h9b, hw⟩ := hw
    refine hz_icmp_ge (tgt := 30) hx hb dX3_isMix_7 (by decide) h9a h9b (fun c_32 => ?_) (fun c_32 => ?_)
    · have hw := hw.1 c_32
      refine lv_iconst (v := hz_i 0) hx hb dX3_isMix_30 (by decide +kernel) ?_
      refine lv_istore_n (lv' := [(2, .int (hz_i 0)), (0, .ref y0), (1, .ref y1)]) hx hb dX3_isMix_31 rfl hl (by decide) rfl (fun ls hl => ?_)
      exact L32 z A 0 hw H locs ls hP hD hS (lv_sub hl [1, 2, 0] rfl)
    · have hw := hw.2 c_32
      refine lv_aload_n hx hb dX3_isMix_10 rfl (lv_at hl 0 rfl) ?_
      obtain ⟨hO_33, hw⟩ := hw
      refine cw_get (ci := 3) (v := .ref (r y0 0)) hx hb hts hin3 hown hK hP hO_33.1 hO_33.2 rfl 0 (by decide) (hts (.fieldLink RX3 11 "HiddenMoves$Mix" "parts" "[LHiddenMoves$Big;") (List.mem_cons_of_mem _ (List.mem_append_left _ (List.mem_append_left _ (List.mem_append_left _ (List.mem_append_left _ (List.mem_of_getElem? (i := 1) rfl))))))) (fun _ h9 => h9) rfl dX3_isMix_11 ?_
      refine lv_iload_n hx hb dX3_isMix_14 rfl (lv_at hl 2 rfl) ?_
      obtain ⟨hO_34, hw⟩ := hw
      obtain ⟨h9i, hw⟩ := hw
      refine cw_ald hx hb hK hP hO_34.1 hO_34.2.2 rfl h9i hO_34.2.1 dX3_isMix_15 ?_
      obtain ⟨hO_36, hw⟩ := hw
      have hFc := cw_free hD hS hA
      obtain ⟨q9, hq9⟩ := cw_at (C := C) (z := z) (r := r) (A := A) hO_36.1 hO_36.2
      refine va_calli (va_runV (As := []) (rest := []) ⟨hx, hb, hml, hown, hts⟩ (k_c0_sign l D _ C L K z r A (cw_g K (r y0 0) (x2.toNat)) _ hw) (cwV 0 hts gX3_isMix_X0_sign rfl rfl rfl (by decide +kernel) ⟨Nat.le_of_ble_eq_true rfl, Nat.le_of_ble_eq_true rfl⟩) ⟨hm_blind, va_recv hK hP (ci := 0) (q0 := q9) rfl hq9, hm_pre hP hK hD hE⟩ rfl rfl hl.1 rfl (lv_room (Nat.le_of_ble_eq_true rfl)) dX3_isMix_16 ⟨Nat.le_of_ble_eq_true rfl, Nat.le_of_ble_eq_true rfl⟩) hS (fun q _ h => hFc q h) hFc (fun rv u t H1 locs ht hvm hw hB hz1 hk1 hS => ?_)
      obtain ⟨rv_35, _, _, _⟩ := u
      obtain ⟨hP, hK1, hD1⟩ := hB
      rw [ht] at hP
      obtain ⟨hrv, hw⟩ := hw
      subst hrv
      have hD := hD1.weaken (fun k q _ h => hFc q.1 h)
      have hP : va_P D vwCl (cw_w C L K z r A) H1 := hP
      have hD : va_D Ad (cw_w C L K z r A) := hD
      generalize H1 = H at hP hS ⊢
      refine W.eq (g2 := F0 m 19 ls [.int (hz_i rv_35)]) rfl ?_
      obtain ⟨h9a, hw⟩ := hw
      refine hz_if_ge (tgt := 24) hx hb dX3_isMix_19 (by decide) h9a (fun c_37 => ?_) (fun c_37 => ?_)
      · have hw := hw.1 c_37
        obtain ⟨x2_38, hx2_38⟩ : ∃ y : Int, y = x2 + 1 := ⟨_, rfl⟩
        have hw := hw x2_38 hx2_38
        refine lv_iinc (v := hz_i x2_38) (lv' := [(2, .int (hz_i x2_38)), (0, .ref y0), (1, .ref y1)]) hx hb dX3_isMix_24 hl (k := 2) rfl (by rw [hx2_38]; exact hz_i_add _ _) (by decide) rfl (fun ls hl => ?_)
        refine lv_goto (tgt := 2) hx hb dX3_isMix_27 (by decide) ?_
        exact (hP2 x2_38).mp hw H locs ls hP hD hS (lv_sub hl [1, 2, 0] rfl)
      · have hw := hw.2 c_37
        refine lv_iconst (v := hz_i 0) hx hb dX3_isMix_22 (by decide +kernel) ?_
        subst hQQ
        subst hAe
        exact W.zret (v := hz_i 0) hx hb hr (hz_tZ (by decide)) (fun t ht hW => ⟨⟨hz_i 0, (0, z, r, A), rfl, ⟨rfl, hw⟩, by rw [ht]; exact hP, va_K.moved hW.alike hK, hD⟩, hS.F ht⟩) hS.2.2 dX3_isMix_23
  have hP := hP0; have hD := hD0; have hS := hS0; have hl := hl0; have hw := hw0
  obtain ⟨H, hH⟩ : ∃ H : Heap, H = s.heap := ⟨_, rfl⟩
  obtain ⟨locs, hlocs⟩ : ∃ L : List Loc, L = [] := ⟨_, rfl⟩
  rw [← hH] at hP
  have hS : va_S Ad s.heap H locs := by rw [hH, hlocs]; exact hS
  refine mw_HL hH hlocs ?_
  refine lv_iconst (v := hz_i 0) hx hb dX3_isMix_0 (by decide +kernel) ?_
  refine lv_istore_n (lv' := [(2, .int (hz_i 0)), (0, .ref y0), (1, .ref y1)]) hx hb dX3_isMix_1 rfl hl (by decide) rfl (fun ls hl => ?_)
  exact L2 z A 0 hw H locs ls hP hD hS (lv_sub hl [1, 2, 0] rfl)

noncomputable def wp_c11_other (L : List Nat) (K : Nat → cw_K) (z : Nat → Nat → Int) (r : Nat → Nat → Nat) (A : Nat → Nat → Int) (y0 : Int) (Q : Int → Prop) : Prop := Q (1 - y0)
set_option maxHeartbeats 4000000 in
set_option maxRecDepth 100000 in
theorem k_c11_other (l : Launch) (D : va_G) (sz : Nat) (C : Nat → ClassId) (L : List Nat) (K : Nat → cw_K) (z : Nat → Nat → Int) (r : Nat → Nat → Nat) (A : Nat → Nat → Int) (y0 : Int) (Q : Int → Prop) (hw : wp_c11_other L K z r A y0 Q) : Met l yX11_other wsX11_other ({ frames := 0, cells := 0, slots := 0, locals := 0 } : Room) (va_Pc [.int (hz_i y0)] (hm_P D (cw_w C L K z r A) (cw_t C) sz)) (va_Qi (S := Int × (Nat → Nat → Int) × (Nat → Nat → Nat) × (Nat → Nat → Int)) (fun r u => r = hz_i u.1 ∧ Q u.1) (fun u t => hm_B D (va_A (cw_w C L K z r A) sz) (cw_w C L K z r A) (cw_t C) t) (va_A (cw_w C L K z r A) sz)) 0 0 (va_A (cw_w C L K z r A) sz) := by
  refine Met.ofW (cc := cX11_other) (maxL := 1) (ret := (some .int)) (by decide) rfl ?_
  intro p e s m args below meth c s₁ B hml hv
  obtain ⟨rfl, hsz, hP, hK, hD0, hE⟩ := hv
  have hx := B.exec
  have hb := B.bytes
  have hr := B.returns
  have hts := atoms_spec (ws := wsX11_other) B.pre
  have hown : s.vm.findClass RX11 = some m.cls := findClass_of_methodNamed B.named
  have hlocks := B.notSynchronized
  subst hsz
  have hD := hD0.self (sz := s.heap.size)
  generalize hAe : va_A (cw_w C L K z r A) s.heap.size = Ad at hD ⊢
  have hA : ∀ q : Nat, s.heap.size ≤ q → Ad q := fun q h => by rw [← hAe]; exact Or.inr h
  have hS : va_S Ad s.heap s.heap [] := va_S.rf
  have hl := lv_entry ([.int (hz_i y0)]) (n := 1) (Nat.le_of_ble_eq_true rfl)
  rw [lg_entry_eq]
  generalize (lg_sl ([.int (hz_i y0)]) ++ List.replicate (1 - (lg_sl ([.int (hz_i y0)])).length) Slot.unset).toArray = ls at hl ⊢
  have hl : lv_has ls 1 [(0, .int (hz_i y0))] := hl
  refine mw_Q (fun QQ hQQ => ?_)
  have hP0 := hP; have hD0 := hD; have hS0 := hS; have hl0 := hl; have hw0 := hw
  clear hP hD hS hl hw
  have hP := hP0; have hD := hD0; have hS := hS0; have hl := hl0; have hw := hw0
  obtain ⟨H, hH⟩ : ∃ H : Heap, H = s.heap := ⟨_, rfl⟩
  obtain ⟨locs, hlocs⟩ : ∃ L : List Loc, L = [] := ⟨_, rfl⟩
  rw [← hH] at hP
  have hS : va_S Ad s.heap H locs := by rw [hH, hlocs]; exact hS
  refine mw_HL hH hlocs ?_
  refine lv_iconst (v := hz_i 1) hx hb dX11_other_0 (by decide +kernel) ?_
  refine lv_iload_n hx hb dX11_other_1 rfl (lv_at hl 0 rfl) ?_
  refine hz_isub hx hb dX11_other_2 ?_
  subst hQQ
  subst hAe
  exact W.iret (v := hz_i (1 - y0)) hx hb hr (fun t ht hW => ⟨⟨hz_i (1 - y0), (1 - y0, z, r, A), rfl, ⟨rfl, hw⟩, by rw [ht]; exact hP, va_K.moved hW.alike hK, hD⟩, hS.F ht⟩) hS.2.2 dX11_other_3

noncomputable def wp_c2_weight_23 (L : List Nat) (K : Nat → cw_K) (z : Nat → Nat → Int) (r : Nat → Nat → Nat) (A : Nat → Nat → Int) (t0 : Int) (Q : Int → Prop) : Prop := Q t0
noncomputable def wp_c2_weight (L : List Nat) (K : Nat → cw_K) (z : Nat → Nat → Int) (r : Nat → Nat → Nat) (A : Nat → Nat → Int) (y0 : Nat) (y1 : Int) (y2 : Int) (y3 : Int) (Q : Int → Prop) : Prop := hz_rI y1 ∧ ((¬ y1 = 0 → cw_O L K 2 y0 ∧ cw_G L K 10 (r y0 3) ∧ ((0 : Int) ≤ y3 ∧ y3 < (cw_n K (r y0 3) : Int)) ∧ cw_A L K 1 (cw_g K (r y0 3) (y3.toNat)) ∧ ((0 : Int) ≤ y2 ∧ y2 < (cw_n K (cw_g K (r y0 3) (y3.toNat)) : Int)) ∧ wp_c2_weight_23 L K z r A (A (cw_g K (r y0 3) (y3.toNat)) (y2.toNat))  Q) ∧ (y1 = 0 → cw_O L K 2 y0 ∧ cw_G L K 10 (r y0 3) ∧ ((0 : Int) ≤ y2 ∧ y2 < (cw_n K (r y0 3) : Int)) ∧ cw_A L K 1 (cw_g K (r y0 3) (y2.toNat)) ∧ ((0 : Int) ≤ y3 ∧ y3 < (cw_n K (cw_g K (r y0 3) (y2.toNat)) : Int)) ∧ wp_c2_weight_23 L K z r A (A (cw_g K (r y0 3) (y2.toNat)) (y3.toNat))  Q))
set_option maxHeartbeats 4000000 in
set_option maxRecDepth 100000 in
theorem k_c2_weight (l : Launch) (D : va_G) (sz : Nat) (C : Nat → ClassId) (L : List Nat) (K : Nat → cw_K) (z : Nat → Nat → Int) (r : Nat → Nat → Nat) (A : Nat → Nat → Int) (y0 : Nat) (y1 : Int) (y2 : Int) (y3 : Int) (Q : Int → Prop) (hw : wp_c2_weight L K z r A y0 y1 y2 y3 Q) : Met l yX2_weight wsX2_weight ({ frames := 0, cells := 0, slots := 0, locals := 0 } : Room) (va_Pc [.ref y0, .int (hz_i y1), .int (hz_i y2), .int (hz_i y3)] (hm_P D (cw_w C L K z r A) (cw_t C) sz)) (va_Ql (S := Int × (Nat → Nat → Int) × (Nat → Nat → Nat) × (Nat → Nat → Int)) (fun r u => r = hz_l u.1 ∧ Q u.1) (fun u t => hm_B D (va_A (cw_w C L K z r A) sz) (cw_w C L K z r A) (cw_t C) t) (va_A (cw_w C L K z r A) sz)) 0 0 (va_A (cw_w C L K z r A) sz) := by
  refine Met.ofW (cc := cX2_weight) (maxL := 4) (ret := (some .long)) (by decide) rfl ?_
  intro p e s m args below meth c s₁ B hml hv
  obtain ⟨rfl, hsz, hP, hK, hD0, hE⟩ := hv
  have hx := B.exec
  have hb := B.bytes
  have hr := B.returns
  have hts := atoms_spec (ws := wsX2_weight) B.pre
  have hown : s.vm.findClass RX2 = some m.cls := findClass_of_methodNamed B.named
  have hlocks := B.notSynchronized
  have hin2 : ∀ w ∈ u_ws RX2 TX2 4, w ∈ wsX2_weight := fun w h => List.mem_cons_of_mem _ (List.mem_append_right _ (h))
  subst hsz
  have hD := hD0.self (sz := s.heap.size)
  generalize hAe : va_A (cw_w C L K z r A) s.heap.size = Ad at hD ⊢
  have hA : ∀ q : Nat, s.heap.size ≤ q → Ad q := fun q h => by rw [← hAe]; exact Or.inr h
  have hS : va_S Ad s.heap s.heap [] := va_S.rf
  have hl := lv_entry ([.ref y0, .int (hz_i y1), .int (hz_i y2), .int (hz_i y3)]) (n := 4) (Nat.le_of_ble_eq_true rfl)
  rw [lg_entry_eq]
  generalize (lg_sl ([.ref y0, .int (hz_i y1), .int (hz_i y2), .int (hz_i y3)]) ++ List.replicate (4 - (lg_sl ([.ref y0, .int (hz_i y1), .int (hz_i y2), .int (hz_i y3)])).length) Slot.unset).toArray = ls at hl ⊢
  have hl : lv_has ls 4 [(0, .ref y0), (1, .int (hz_i y1)), (2, .int (hz_i y2)), (3, .int (hz_i y3))] := hl
  refine mw_Q (fun QQ hQQ => ?_)
  have hP0 := hP; have hD0 := hD; have hS0 := hS; have hl0 := hl; have hw0 := hw
  clear hP hD hS hl hw
  have L23 : ∀ (t0 : Int), wp_c2_weight_23 L K z r A t0  Q → ∀ (H : Heap) (locs : List Loc) (ls : Array Slot), va_P D vwCl (cw_w C L K z r A) H → va_D Ad (cw_w C L K z r A) → va_S Ad s.heap H locs → lv_has ls 4 [] → W p l e (headSpec wsX2_weight ({ frames := 0, cells := 0, slots := 0, locals := 0 } : Room)).room s m (List.toArray [.ref y0, .int (hz_i y1), .int (hz_i y2), .int (hz_i y3)]) below meth c H locs 0 0 QQ (F0 m 23 ls [.long (hz_l t0)]) := by
    intro t0 hw H locs ls hP hD hS hl
    subst hQQ
    subst hAe
    exact W.lret (v := hz_l t0) hx hb hr (fun t ht hW => ⟨⟨hz_l t0, (t0, z, r, A), rfl, ⟨rfl, hw⟩, by rw [ht]; exact hP, va_K.moved hW.alike hK, hD⟩, hS.F ht⟩) hS.2.2 dX2_weight_23
  have hP := hP0; have hD := hD0; have hS := hS0; have hl := hl0; have hw := hw0
  obtain ⟨H, hH⟩ : ∃ H : Heap, H = s.heap := ⟨_, rfl⟩
  obtain ⟨locs, hlocs⟩ : ∃ L : List Loc, L = [] := ⟨_, rfl⟩
  rw [← hH] at hP
  have hS : va_S Ad s.heap H locs := by rw [hH, hlocs]; exact hS
  refine mw_HL hH hlocs ?_
  refine lv_iload_n hx hb dX2_weight_0 rfl (lv_at hl 1 rfl) ?_
  obtain ⟨h9a, hw⟩ := hw
  refine hz_if_ne (tgt := 15) hx hb dX2_weight_1 (by decide) h9a (fun c_1 => ?_) (fun c_1 => ?_)
  · have hw := hw.1 c_1
    refine lv_aload_n hx hb dX2_weight_15 rfl (lv_at hl 0 rfl) ?_
    obtain ⟨hO_2, hw⟩ := hw
    refine cw_get (ci := 2) (v := .ref (r y0 3)) hx hb hts hin2 hown hK hP hO_2.1 hO_2.2 rfl 3 (by decide) (hts (.fieldLink RX2 27 "HiddenMoves$Game" "weights" "[[J") (List.mem_cons_of_mem _ (List.mem_append_left _ (List.mem_of_getElem? (i := 0) rfl)))) (fun _ h9 => h9) rfl dX2_weight_16 ?_
    refine lv_iload_n hx hb dX2_weight_19 rfl (lv_at hl 3 rfl) ?_
    obtain ⟨hO_3, hw⟩ := hw
    obtain ⟨h9i, hw⟩ := hw
    refine cw_aldJ hx hb hK hP hO_3.1 hO_3.2.2 h9i hO_3.2.1 dX2_weight_20 ?_
    refine lv_iload_n hx hb dX2_weight_21 rfl (lv_at hl 2 rfl) ?_
    obtain ⟨hO_4, hw⟩ := hw
    obtain ⟨h9i, hw⟩ := hw
    refine cw_lld hx hb hK hP hO_4.1 hO_4.2.2 h9i hO_4.2.1 dX2_weight_22 ?_
    exact L23 (A (cw_g K (r y0 3) (y3.toNat)) (y2.toNat)) hw H locs ls hP hD hS (lv_sub hl [] rfl)
  · have hw := hw.2 c_1
    refine lv_aload_n hx hb dX2_weight_4 rfl (lv_at hl 0 rfl) ?_
    obtain ⟨hO_5, hw⟩ := hw
    refine cw_get (ci := 2) (v := .ref (r y0 3)) hx hb hts hin2 hown hK hP hO_5.1 hO_5.2 rfl 3 (by decide) (hts (.fieldLink RX2 27 "HiddenMoves$Game" "weights" "[[J") (List.mem_cons_of_mem _ (List.mem_append_left _ (List.mem_of_getElem? (i := 0) rfl)))) (fun _ h9 => h9) rfl dX2_weight_5 ?_
    refine lv_iload_n hx hb dX2_weight_8 rfl (lv_at hl 2 rfl) ?_
    obtain ⟨hO_6, hw⟩ := hw
    obtain ⟨h9i, hw⟩ := hw
    refine cw_aldJ hx hb hK hP hO_6.1 hO_6.2.2 h9i hO_6.2.1 dX2_weight_9 ?_
    refine lv_iload_n hx hb dX2_weight_10 rfl (lv_at hl 3 rfl) ?_
    obtain ⟨hO_7, hw⟩ := hw
    obtain ⟨h9i, hw⟩ := hw
    refine cw_lld hx hb hK hP hO_7.1 hO_7.2.2 h9i hO_7.2.1 dX2_weight_11 ?_
    refine lv_goto (tgt := 23) hx hb dX2_weight_12 (by decide) ?_
    exact L23 (A (cw_g K (r y0 3) (y2.toNat)) (y3.toNat)) hw H locs ls hP hD hS (lv_sub hl [] rfl)

noncomputable def wp_c6_gather_111 (L : List Nat) (K : Nat → cw_K) (z : Nat → Nat → Int) (r : Nat → Nat → Nat) (A : Nat → Nat → Int) (y0 : Nat) (y1 : Nat) (y2 : Int) (y3 : Nat) (x4 : Int) (x5 : Int) (x6 : Int) (P17 : (Nat → Nat → Int) → (Nat → Nat → Int) → Int → Prop) (P45 : (Nat → Nat → Int) → (Nat → Nat → Int) → Int → Prop) (Q : (Nat → Nat → Int) → (Nat → Nat → Int) → Prop) : Prop := ∀ x6_1 : Int, x6_1 = x6 + 1 → P45 z A x6_1
noncomputable def wp_c6_gather_45 (L : List Nat) (K : Nat → cw_K) (z : Nat → Nat → Int) (r : Nat → Nat → Nat) (A : Nat → Nat → Int) (y0 : Nat) (y1 : Nat) (y2 : Int) (y3 : Nat) (x4 : Int) (x5 : Int) (x6 : Int) (P17 : (Nat → Nat → Int) → (Nat → Nat → Int) → Int → Prop) (Q : (Nat → Nat → Int) → (Nat → Nat → Int) → Prop) : Prop := ∀ P45 : (Nat → Nat → Int) → (Nat → Nat → Int) → Int → Prop, (∀ (z : Nat → Nat → Int) (A : Nat → Nat → Int) (x6 : Int), hz_rI x6 ∧ hz_rI x4 ∧ ((x4 ≤ x6 → ∀ x5_3 : Int, x5_3 = x5 + 1 → P17 z A x5_3) ∧ (¬ (x4 ≤ x6) → cw_O L K 2 y1 ∧ wp_c2_weight L K z r A y1 y2 x5 x6 (fun rv_4 => hz_rL rv_4 ∧ ((rv_4 = 0 → wp_c6_gather_111 L K z r A y0 y1 y2 y3 x4 x5 x6 P17 P45 Q) ∧ (¬ (rv_4 = 0) → cw_O L K 6 y0 ∧ cw_O L K 0 (r y0 3) ∧ wp_c0_put L K z r A (r y0 3) rv_4 (fun z_9 A_10 => cw_O L K 3 y3 ∧ cw_G L K 4 (r y3 0) ∧ ((0 : Int) ≤ x6 ∧ x6 < (cw_n K (r y3 0) : Int)) ∧ cw_O L K 0 (r y0 4) ∧ wp_c0_putProduct L K z_9 r A_10 (r y0 4) (cw_g K (r y3 0) (x6.toNat)) (r y0 3) (fun z_15 A_16 => cw_G L K 4 (r y0 2) ∧ ((0 : Int) ≤ x5 ∧ x5 < (cw_n K (r y0 2) : Int)) ∧ cw_O L K 0 (cw_g K (r y0 2) (x5.toNat)) ∧ wp_c0_plus L K z_15 r A_16 (cw_g K (r y0 2) (x5.toNat)) (r y0 4) (fun z_20 A_21 => wp_c6_gather_111 L K z_20 r A_21 y0 y1 y2 y3 x4 x5 x6 P17 P45 Q)))))))) → P45 z A x6) → P45 z A x6
noncomputable def wp_c6_gather_17 (L : List Nat) (K : Nat → cw_K) (z : Nat → Nat → Int) (r : Nat → Nat → Nat) (A : Nat → Nat → Int) (y0 : Nat) (y1 : Nat) (y2 : Int) (y3 : Nat) (x4 : Int) (x5 : Int) (Q : (Nat → Nat → Int) → (Nat → Nat → Int) → Prop) : Prop := ∀ P17 : (Nat → Nat → Int) → (Nat → Nat → Int) → Int → Prop, (∀ (z : Nat → Nat → Int) (A : Nat → Nat → Int) (x5 : Int), cw_O L K 2 y1 ∧ cw_G L K 7 (r y1 1) ∧ ((0 : Int) ≤ y2 ∧ y2 < (cw_n K (r y1 1) : Int)) ∧ cw_O L K 7 (cw_g K (r y1 1) (y2.toNat)) ∧ hz_rI x5 ∧ hz_rI (z (cw_g K (r y1 1) (y2.toNat)) 5) ∧ ((z (cw_g K (r y1 1) (y2.toNat)) 5 ≤ x5 → Q z A) ∧ (¬ (z (cw_g K (r y1 1) (y2.toNat)) 5 ≤ x5) → cw_O L K 6 y0 ∧ cw_G L K 4 (r y0 2) ∧ ((0 : Int) ≤ x5 ∧ x5 < (cw_n K (r y0 2) : Int)) ∧ cw_O L K 0 (cw_g K (r y0 2) (x5.toNat)) ∧ wp_c0_put L K z r A (cw_g K (r y0 2) (x5.toNat)) 0 (fun z_30 A_31 => wp_c6_gather_45 L K z_30 r A_31 y0 y1 y2 y3 x4 x5 0 P17 Q))) → P17 z A x5) → P17 z A x5
noncomputable def wp_c6_gather (L : List Nat) (K : Nat → cw_K) (z : Nat → Nat → Int) (r : Nat → Nat → Nat) (A : Nat → Nat → Int) (y0 : Nat) (y1 : Nat) (y2 : Int) (y3 : Nat) (Q : (Nat → Nat → Int) → (Nat → Nat → Int) → Prop) : Prop := cw_O L K 2 y1 ∧ wp_c11_other L K z r A y2 (fun rv_34 => cw_G L K 7 (r y1 1) ∧ ((0 : Int) ≤ rv_34 ∧ rv_34 < (cw_n K (r y1 1) : Int)) ∧ cw_O L K 7 (cw_g K (r y1 1) (rv_34.toNat)) ∧ ∀ x4_37 : Int, x4_37 = z (cw_g K (r y1 1) (rv_34.toNat)) 5 → wp_c6_gather_17 L K z r A y0 y1 y2 y3 x4_37 0  Q)
set_option maxHeartbeats 4000000 in
set_option maxRecDepth 100000 in
theorem k_c6_gather (l : Launch) (D : va_G) (sz : Nat) (C : Nat → ClassId) (L : List Nat) (K : Nat → cw_K) (z : Nat → Nat → Int) (r : Nat → Nat → Nat) (A : Nat → Nat → Int) (y0 : Nat) (y1 : Nat) (y2 : Int) (y3 : Nat) (Q : (Nat → Nat → Int) → (Nat → Nat → Int) → Prop) (hw : wp_c6_gather L K z r A y0 y1 y2 y3 Q) : Met l yX6_gather wsX6_gather ({ frames := 3, cells := 0, slots := 0, locals := 73 } : Room) (va_Pc [.ref y0, .ref y1, .int (hz_i y2), .ref y3] (hm_P D (cw_w C L K z r A) (cw_t C) sz)) (va_Qv (S := Int × (Nat → Nat → Int) × (Nat → Nat → Nat) × (Nat → Nat → Int)) (fun u => Q u.2.1 u.2.2.2) (fun u t => hm_B D (va_A (cw_w C L K z r A) sz) (cw_w C L K u.2.1 r u.2.2.2) (cw_t C) t) (va_A (cw_w C L K z r A) sz)) 0 0 (va_A (cw_w C L K z r A) sz) := by
  refine Met.ofW (cc := cX6_gather) (maxL := 9) (ret := none) (by decide) rfl ?_
  intro p e s m args below meth c s₁ B hml hv
  obtain ⟨rfl, hsz, hP, hK, hD0, hE⟩ := hv
  have hx := B.exec
  have hb := B.bytes
  have hr := B.returns
  have hts := atoms_spec (ws := wsX6_gather) B.pre
  have hown : s.vm.findClass RX6 = some m.cls := findClass_of_methodNamed B.named
  have hlocks := B.notSynchronized
  have hin2 : ∀ w ∈ u_ws RX2 TX2 4, w ∈ wsX6_gather := fun w h => List.mem_cons_of_mem _ (List.mem_append_left _ (List.mem_append_left _ (List.mem_append_left _ (List.mem_append_left _ (List.mem_append_right _ (h))))))
  have hin3 : ∀ w ∈ u_ws RX3 TX3 2, w ∈ wsX6_gather := fun w h => List.mem_cons_of_mem _ (List.mem_append_left _ (List.mem_append_right _ (h)))
  have hin6 : ∀ w ∈ u_ws RX6 TX6 5, w ∈ wsX6_gather := fun w h => List.mem_cons_of_mem _ (List.mem_append_left _ (List.mem_append_left _ (List.mem_append_right _ (h))))
  have hin7 : ∀ w ∈ u_ws RX7 TX7 8, w ∈ wsX6_gather := fun w h => List.mem_cons_of_mem _ (List.mem_append_left _ (List.mem_append_left _ (List.mem_append_left _ (List.mem_append_right _ (h)))))
  subst hsz
  have hD := hD0.self (sz := s.heap.size)
  generalize hAe : va_A (cw_w C L K z r A) s.heap.size = Ad at hD ⊢
  have hA : ∀ q : Nat, s.heap.size ≤ q → Ad q := fun q h => by rw [← hAe]; exact Or.inr h
  have hS : va_S Ad s.heap s.heap [] := va_S.rf
  have hl := lv_entry ([.ref y0, .ref y1, .int (hz_i y2), .ref y3]) (n := 9) (Nat.le_of_ble_eq_true rfl)
  rw [lg_entry_eq]
  generalize (lg_sl ([.ref y0, .ref y1, .int (hz_i y2), .ref y3]) ++ List.replicate (9 - (lg_sl ([.ref y0, .ref y1, .int (hz_i y2), .ref y3])).length) Slot.unset).toArray = ls at hl ⊢
  have hl : lv_has ls 9 [(0, .ref y0), (1, .ref y1), (2, .int (hz_i y2)), (3, .ref y3)] := hl
  refine mw_Q (fun QQ hQQ => ?_)
  have hP0 := hP; have hD0 := hD; have hS0 := hS; have hl0 := hl; have hw0 := hw
  clear hP hD hS hl hw
  have L17 : ∀ (z : Nat → Nat → Int) (A : Nat → Nat → Int) (x4 : Int) (x5 : Int), wp_c6_gather_17 L K z r A y0 y1 y2 y3 x4 x5  Q → ∀ (H : Heap) (locs : List Loc) (ls : Array Slot), va_P D vwCl (cw_w C L K z r A) H → va_D Ad (cw_w C L K z r A) → va_S Ad s.heap H locs → lv_has ls 9 [(0, .ref y0), (1, .ref y1), (2, .int (hz_i y2)), (3, .ref y3), (4, .int (hz_i x4)), (5, .int (hz_i x5))] → W p l e (headSpec wsX6_gather ({ frames := 3, cells := 0, slots := 0, locals := 73 } : Room)).room s m (List.toArray [.ref y0, .ref y1, .int (hz_i y2), .ref y3]) below meth c H locs 0 0 QQ (F0 m 17 ls []) := by
    intro z A x4 x5 hw
    obtain ⟨P17, hP17⟩ : ∃ P : (Nat → Nat → Int) → (Nat → Nat → Int) → Int → Prop, ∀ (z : Nat → Nat → Int) (A : Nat → Nat → Int) (x5 : Int), P z A x5 ↔ (∀ (H : Heap) (locs : List Loc) (ls : Array Slot), va_P D vwCl (cw_w C L K z r A) H → va_D Ad (cw_w C L K z r A) → va_S Ad s.heap H locs → lv_has ls 9 [(0, .ref y0), (1, .ref y1), (2, .int (hz_i y2)), (3, .ref y3), (4, .int (hz_i x4)), (5, .int (hz_i x5))] → W p l e (headSpec wsX6_gather ({ frames := 3, cells := 0, slots := 0, locals := 73 } : Room)).room s m (List.toArray [.ref y0, .ref y1, .int (hz_i y2), .ref y3]) below meth c H locs 0 0 QQ (F0 m 17 ls [])) := ⟨fun (z : Nat → Nat → Int) (A : Nat → Nat → Int) (x5 : Int) => ∀ (H : Heap) (locs : List Loc) (ls : Array Slot), va_P D vwCl (cw_w C L K z r A) H → va_D Ad (cw_w C L K z r A) → va_S Ad s.heap H locs → lv_has ls 9 [(0, .ref y0), (1, .ref y1), (2, .int (hz_i y2)), (3, .ref y3), (4, .int (hz_i x4)), (5, .int (hz_i x5))] → W p l e (headSpec wsX6_gather ({ frames := 3, cells := 0, slots := 0, locals := 73 } : Room)).room s m (List.toArray [.ref y0, .ref y1, .int (hz_i y2), .ref y3]) below meth c H locs 0 0 QQ (F0 m 17 ls []), fun _ _ _ => Iff.rfl⟩
    refine (hP17 z A x5).mp (hw P17 ?_)
    intro z A x5 hw
    refine (hP17 z A x5).mpr ?_
    intro H locs ls hP hD hS hl
    have L45 : ∀ (z : Nat → Nat → Int) (A : Nat → Nat → Int) (x5 : Int) (x6 : Int), wp_c6_gather_45 L K z r A y0 y1 y2 y3 x4 x5 x6 P17 Q → ∀ (H : Heap) (locs : List Loc) (ls : Array Slot), va_P D vwCl (cw_w C L K z r A) H → va_D Ad (cw_w C L K z r A) → va_S Ad s.heap H locs → lv_has ls 9 [(0, .ref y0), (1, .ref y1), (2, .int (hz_i y2)), (3, .ref y3), (4, .int (hz_i x4)), (5, .int (hz_i x5)), (6, .int (hz_i x6))] → W p l e (headSpec wsX6_gather ({ frames := 3, cells := 0, slots := 0, locals := 73 } : Room)).room s m (List.toArray [.ref y0, .ref y1, .int (hz_i y2), .ref y3]) below meth c H locs 0 0 QQ (F0 m 45 ls []) := by
      intro z A x5 x6 hw
      obtain ⟨P45, hP45⟩ : ∃ P : (Nat → Nat → Int) → (Nat → Nat → Int) → Int → Prop, ∀ (z : Nat → Nat → Int) (A : Nat → Nat → Int) (x6 : Int), P z A x6 ↔ (∀ (H : Heap) (locs : List Loc) (ls : Array Slot), va_P D vwCl (cw_w C L K z r A) H → va_D Ad (cw_w C L K z r A) → va_S Ad s.heap H locs → lv_has ls 9 [(0, .ref y0), (1, .ref y1), (2, .int (hz_i y2)), (3, .ref y3), (4, .int (hz_i x4)), (5, .int (hz_i x5)), (6, .int (hz_i x6))] → W p l e (headSpec wsX6_gather ({ frames := 3, cells := 0, slots := 0, locals := 73 } : Room)).room s m (List.toArray [.ref y0, .ref y1, .int (hz_i y2), .ref y3]) below meth c H locs 0 0 QQ (F0 m 45 ls [])) := ⟨fun (z : Nat → Nat → Int) (A : Nat → Nat → Int) (x6 : Int) => ∀ (H : Heap) (locs : List Loc) (ls : Array Slot), va_P D vwCl (cw_w C L K z r A) H → va_D Ad (cw_w C L K z r A) → va_S Ad s.heap H locs → lv_has ls 9 [(0, .ref y0), (1, .ref y1), (2, .int (hz_i y2)), (3, .ref y3), (4, .int (hz_i x4)), (5, .int (hz_i x5)), (6, .int (hz_i x6))] → W p l e (headSpec wsX6_gather ({ frames := 3, cells := 0, slots := 0, locals := 73 } : Room)).room s m (List.toArray [.ref y0, .ref y1, .int (hz_i y2), .ref y3]) below meth c H locs 0 0 QQ (F0 m 45 ls []), fun _ _ _ => Iff.rfl⟩
      refine (hP45 z A x6).mp (hw P45 ?_)
      intro z A x6 hw
      refine (hP45 z A x6).mpr ?_
      intro H locs ls hP hD hS hl
      have L111 : ∀ (z : Nat → Nat → Int) (A : Nat → Nat → Int) (x6 : Int), wp_c6_gather_111 L K z r A y0 y1 y2 y3 x4 x5 x6 P17 P45 Q → ∀ (H : Heap) (locs : List Loc) (ls : Array Slot), va_P D vwCl (cw_w C L K z r A) H → va_D Ad (cw_w C L K z r A) → va_S Ad s.heap H locs → lv_has ls 9 [(0, .ref y0), (1, .ref y1), (2, .int (hz_i y2)), (3, .ref y3), (4, .int (hz_i x4)), (5, .int (hz_i x5)), (6, .int (hz_i x6))] → W p l e (headSpec wsX6_gather ({ frames := 3, cells := 0, slots := 0, locals := 73 } : Room)).room s m (List.toArray [.ref y0, .ref y1, .int (hz_i y2), .ref y3]) below meth c H locs 0 0 QQ (F0 m 111 ls []) := by
        intro z A x6 hw H locs ls hP hD hS hl
        obtain ⟨x6_1, hx6_1⟩ : ∃ y : Int, y = x6 + 1 := ⟨_, rfl⟩
        have hw := hw x6_1 hx6_1
        refine lv_iinc (v := hz_i x6_1) (lv' := [(6, .int (hz_i x6_1)), (0, .ref y0), (1, .ref y1), (2, .int (hz_i y2)), (3, .ref y3), (4, .int (hz_i x4)), (5, .int (hz_i x5))]) hx hb dX6_gather_111 hl (k := 6) rfl (by rw [hx6_1]; exact hz_i_add _ _) (by decide) rfl (fun ls hl => ?_)
        refine lv_goto (tgt := 45) hx hb dX6_gather_114 (by decide) ?_
        exact (hP45 z A x6_1).mp hw H locs ls hP hD hS (lv_sub hl [1, 2, 3, 4, 5, 6, 0] rfl)
      refine lv_iload hx hb dX6_gather_45 (lv_at hl 6 rfl) ?_
      refine lv_iload hx hb dX6_gather_47 (lv_at hl 4 rfl) ?_
      obtain ⟨h9a, hw⟩ := hw
      obtain ⟨h9b, hw⟩ := hw
      refine hz_icmp_ge (tgt := 117) hx hb dX6_gather_49 (by decide) h9a h9b (fun c_2 => ?_) (fun c_2 => ?_)
      · have hw := hw.1 c_2
        obtain ⟨x5_3, hx5_3⟩ : ∃ y : Int, y = x5 + 1 := ⟨_, rfl⟩
        have hw := hw x5_3 hx5_3
        refine lv_iinc (v := hz_i x5_3) (lv' := [(5, .int (hz_i x5_3)), (0, .ref y0), (1, .ref y1), (2, .int (hz_i y2)), (3, .ref y3), (4, .int (hz_i x4)), (6, .int (hz_i x6))]) hx hb dX6_gather_117 hl (k := 5) rfl (by rw [hx5_3]; exact hz_i_add _ _) (by decide) rfl (fun ls hl => ?_)
        refine lv_goto (tgt := 17) hx hb dX6_gather_120 (by decide) ?_
        exact (hP17 z A x5_3).mp hw H locs ls hP hD hS (lv_sub hl [1, 2, 3, 4, 5, 0] rfl)
      · have hw := hw.2 c_2
        refine lv_aload_n hx hb dX6_gather_52 rfl (lv_at hl 1 rfl) ?_
        refine lv_iload_n hx hb dX6_gather_53 rfl (lv_at hl 2 rfl) ?_
        refine lv_iload hx hb dX6_gather_54 (lv_at hl 5 rfl) ?_
        refine lv_iload hx hb dX6_gather_56 (lv_at hl 6 rfl) ?_
        obtain ⟨hO_5, hw⟩ := hw
        have hFc := cw_free hD hS hA
        obtain ⟨q9, hq9⟩ := cw_at (C := C) (z := z) (r := r) (A := A) hO_5.1 hO_5.2
        refine va_calll (va_runV (As := [.int (hz_i y2), .int (hz_i x5), .int (hz_i x6)]) (rest := []) ⟨hx, hb, hml, hown, hts⟩ (k_c2_weight l D _ C L K z r A y1 y2 x5 x6 _ hw) (cwV 3 hts gX6_gather_X2_weight rfl rfl rfl (by decide +kernel) ⟨Nat.le_of_ble_eq_true rfl, Nat.le_of_ble_eq_true rfl⟩) ⟨hm_blind, va_recv hK hP (ci := 2) (q0 := q9) rfl hq9, hm_pre hP hK hD hE⟩ rfl rfl hl.1 rfl (lv_room (Nat.le_of_ble_eq_true rfl)) dX6_gather_58 ⟨Nat.le_of_ble_eq_true rfl, Nat.le_of_ble_eq_true rfl⟩) hS (fun q _ h => hFc q h) hFc (fun rv u t H1 locs ht hvm hw hB hz1 hk1 hS => ?_)
        obtain ⟨rv_4, _, _, _⟩ := u
        obtain ⟨hP, hK1, hD1⟩ := hB
        rw [ht] at hP
        obtain ⟨hrv, hw⟩ := hw
        subst hrv
        have hD := hD1.weaken (fun k q _ h => hFc q.1 h)
        have hP : va_P D vwCl (cw_w C L K z r A) H1 := hP
        have hD : va_D Ad (cw_w C L K z r A) := hD
        generalize H1 = H at hP hS ⊢
        refine W.eq (g2 := F0 m 61 ls [.long (hz_l rv_4)]) rfl ?_
        refine lv_lstore (lv' := [(7, .long (hz_l rv_4)), (0, .ref y0), (1, .ref y1), (2, .int (hz_i y2)), (3, .ref y3), (4, .int (hz_i x4)), (5, .int (hz_i x5)), (6, .int (hz_i x6))]) hx hb dX6_gather_61 hl (by decide) rfl (fun ls hl => ?_)
        refine lv_lload hx hb dX6_gather_63 (lv_at hl 0 rfl) ?_
        refine lv_lconst (v := hz_l 0) hx hb dX6_gather_65 (by decide +kernel) ?_
        obtain ⟨h9a, hw⟩ := hw
        refine hz_lcmp_eq (tgt := 111) hx hb dX6_gather_66 dX6_gather_67 (by decide) h9a ⟨by decide, by decide⟩ (fun c_6 => ?_) (fun c_6 => ?_)
        · have hw := hw.1 c_6
          exact L111 z A x6 hw H locs ls hP hD hS (lv_sub hl [1, 2, 3, 4, 5, 6, 7] rfl)
        · have hw := hw.2 c_6
          refine lv_aload_n hx hb dX6_gather_70 rfl (lv_at hl 1 rfl) ?_
          obtain ⟨hO_7, hw⟩ := hw
          refine cw_get (ci := 6) (v := .ref (r y0 3)) hx hb hts hin6 hown hK hP hO_7.1 hO_7.2 rfl 3 (by decide) (hts (.fieldLink RX6 28 "HiddenMoves$Reply" "factor" "LHiddenMoves$Big;") (List.mem_cons_of_mem _ (List.mem_append_left _ (List.mem_append_left _ (List.mem_append_left _ (List.mem_append_left _ (List.mem_append_left _ (List.mem_append_left _ (List.mem_of_getElem? (i := 3) rfl))))))))) (fun _ h9 => h9) rfl dX6_gather_71 ?_
          refine lv_lload hx hb dX6_gather_74 (lv_at hl 0 rfl) ?_
          obtain ⟨hO_11, hw⟩ := hw
          have hFc := cw_free hD hS hA
          obtain ⟨q9, hq9⟩ := cw_at (C := C) (z := z) (r := r) (A := A) hO_11.1 hO_11.2
          refine va_callv (va_runV (As := [.long (hz_l rv_4)]) (rest := []) ⟨hx, hb, hml, hown, hts⟩ (k_c0_put l D _ C L K z r A (r y0 3) rv_4 _ hw) (cwV 1 hts gX6_gather_X0_put rfl rfl rfl (by decide +kernel) ⟨Nat.le_of_ble_eq_true rfl, Nat.le_of_ble_eq_true rfl⟩) ⟨hm_blind, va_recv hK hP (ci := 0) (q0 := q9) rfl hq9, hm_pre hP hK hD hE⟩ rfl rfl hl.1 rfl (lv_room (Nat.le_of_ble_eq_true rfl)) dX6_gather_76 ⟨Nat.le_of_ble_eq_true rfl, Nat.le_of_ble_eq_true rfl⟩) hS (fun q _ h => hFc q h) hFc (fun u t H1 locs ht hvm hw hB hz1 hk1 hS => ?_)
          obtain ⟨rv_8, z_9, _, A_10⟩ := u
          obtain ⟨hP, hK1, hD1⟩ := hB
          rw [ht] at hP
          have hD := hD1.weaken (fun k q _ h => hFc q.1 h)
          have hP : va_P D vwCl (cw_w C L K z_9 r A_10) H1 := hP
          have hD : va_D Ad (cw_w C L K z_9 r A_10) := hD
          generalize H1 = H at hP hS ⊢
          refine W.eq (g2 := F0 m 79 ls []) rfl ?_
          refine lv_aload_n hx hb dX6_gather_79 rfl (lv_at hl 1 rfl) ?_
          refine cw_get (ci := 6) (v := .ref (r y0 4)) hx hb hts hin6 hown hK hP hO_7.1 hO_7.2 rfl 4 (by decide) (hts (.fieldLink RX6 32 "HiddenMoves$Reply" "term" "LHiddenMoves$Big;") (List.mem_cons_of_mem _ (List.mem_append_left _ (List.mem_append_left _ (List.mem_append_left _ (List.mem_append_left _ (List.mem_append_left _ (List.mem_append_left _ (List.mem_of_getElem? (i := 4) rfl))))))))) (fun _ h9 => h9) rfl dX6_gather_80 ?_
          refine lv_aload_n hx hb dX6_gather_83 rfl (lv_at hl 4 rfl) ?_
          obtain ⟨hO_12, hw⟩ := hw
          refine cw_get (ci := 3) (v := .ref (r y3 0)) hx hb hts hin3 hown hK hP hO_12.1 hO_12.2 rfl 0 (by decide) (hts (.fieldLink RX6 55 "HiddenMoves$Mix" "parts" "[LHiddenMoves$Big;") (List.mem_cons_of_mem _ (List.mem_append_left _ (List.mem_append_left _ (List.mem_append_left _ (List.mem_append_left _ (List.mem_append_left _ (List.mem_append_left _ (List.mem_of_getElem? (i := 5) rfl))))))))) (fun _ h9 => h9) rfl dX6_gather_84 ?_
          refine lv_iload hx hb dX6_gather_87 (lv_at hl 7 rfl) ?_
          obtain ⟨hO_13, hw⟩ := hw
          obtain ⟨h9i, hw⟩ := hw
          refine cw_ald hx hb hK hP hO_13.1 hO_13.2.2 rfl h9i hO_13.2.1 dX6_gather_89 ?_
          refine lv_aload_n hx hb dX6_gather_90 rfl (lv_at hl 1 rfl) ?_
          refine cw_get (ci := 6) (v := .ref (r y0 3)) hx hb hts hin6 hown hK hP hO_7.1 hO_7.2 rfl 3 (by decide) (hts (.fieldLink RX6 28 "HiddenMoves$Reply" "factor" "LHiddenMoves$Big;") (List.mem_cons_of_mem _ (List.mem_append_left _ (List.mem_append_left _ (List.mem_append_left _ (List.mem_append_left _ (List.mem_append_left _ (List.mem_append_left _ (List.mem_of_getElem? (i := 3) rfl))))))))) (fun _ h9 => h9) rfl dX6_gather_91 ?_
          obtain ⟨hO_17, hw⟩ := hw
          have hFc := cw_free hD hS hA
          obtain ⟨q9, hq9⟩ := cw_at (C := C) (z := z_9) (r := r) (A := A_10) hO_17.1 hO_17.2
          refine va_callv (va_runV (As := [.ref (cw_g K (r y3 0) (x6.toNat)), .ref (r y0 3)]) (rest := []) ⟨hx, hb, hml, hown, hts⟩ (k_c0_putProduct l D _ C L K z_9 r A_10 (r y0 4) (cw_g K (r y3 0) (x6.toNat)) (r y0 3) _ hw) (cwV 2 hts gX6_gather_X0_putProduct rfl rfl rfl (by decide +kernel) ⟨Nat.le_of_ble_eq_true rfl, Nat.le_of_ble_eq_true rfl⟩) ⟨hm_blind, va_recv hK hP (ci := 0) (q0 := q9) rfl hq9, hm_pre hP hK hD hE⟩ rfl rfl hl.1 rfl (lv_room (Nat.le_of_ble_eq_true rfl)) dX6_gather_94 ⟨Nat.le_of_ble_eq_true rfl, Nat.le_of_ble_eq_true rfl⟩) hS (fun q _ h => hFc q h) hFc (fun u t H1 locs ht hvm hw hB hz1 hk1 hS => ?_)
          obtain ⟨rv_14, z_15, _, A_16⟩ := u
          obtain ⟨hP, hK1, hD1⟩ := hB
          rw [ht] at hP
          have hD := hD1.weaken (fun k q _ h => hFc q.1 h)
          have hP : va_P D vwCl (cw_w C L K z_15 r A_16) H1 := hP
          have hD : va_D Ad (cw_w C L K z_15 r A_16) := hD
          generalize H1 = H at hP hS ⊢
          refine W.eq (g2 := F0 m 97 ls []) rfl ?_
          refine lv_aload_n hx hb dX6_gather_97 rfl (lv_at hl 1 rfl) ?_
          refine cw_get (ci := 6) (v := .ref (r y0 2)) hx hb hts hin6 hown hK hP hO_7.1 hO_7.2 rfl 2 (by decide) (hts (.fieldLink RX6 21 "HiddenMoves$Reply" "gains" "[LHiddenMoves$Big;") (List.mem_cons_of_mem _ (List.mem_append_left _ (List.mem_append_left _ (List.mem_append_left _ (List.mem_append_left _ (List.mem_append_left _ (List.mem_append_left _ (List.mem_of_getElem? (i := 2) rfl))))))))) (fun _ h9 => h9) rfl dX6_gather_98 ?_
          refine lv_iload hx hb dX6_gather_101 (lv_at hl 6 rfl) ?_
          obtain ⟨hO_18, hw⟩ := hw
          obtain ⟨h9i, hw⟩ := hw
          refine cw_ald hx hb hK hP hO_18.1 hO_18.2.2 rfl h9i hO_18.2.1 dX6_gather_103 ?_
          refine lv_aload_n hx hb dX6_gather_104 rfl (lv_at hl 1 rfl) ?_
          refine cw_get (ci := 6) (v := .ref (r y0 4)) hx hb hts hin6 hown hK hP hO_7.1 hO_7.2 rfl 4 (by decide) (hts (.fieldLink RX6 32 "HiddenMoves$Reply" "term" "LHiddenMoves$Big;") (List.mem_cons_of_mem _ (List.mem_append_left _ (List.mem_append_left _ (List.mem_append_left _ (List.mem_append_left _ (List.mem_append_left _ (List.mem_append_left _ (List.mem_of_getElem? (i := 4) rfl))))))))) (fun _ h9 => h9) rfl dX6_gather_105 ?_
          obtain ⟨hO_22, hw⟩ := hw
          have hFc := cw_free hD hS hA
          obtain ⟨q9, hq9⟩ := cw_at (C := C) (z := z_15) (r := r) (A := A_16) hO_22.1 hO_22.2
          refine va_callv (va_runV (As := [.ref (r y0 4)]) (rest := []) ⟨hx, hb, hml, hown, hts⟩ (k_c0_plus l D _ C L K z_15 r A_16 (cw_g K (r y0 2) (x5.toNat)) (r y0 4) _ hw) (cwV 1 hts gX6_gather_X0_plus rfl rfl rfl (by decide +kernel) ⟨Nat.le_of_ble_eq_true rfl, Nat.le_of_ble_eq_true rfl⟩) ⟨hm_blind, va_recv hK hP (ci := 0) (q0 := q9) rfl hq9, hm_pre hP hK hD hE⟩ rfl rfl hl.1 rfl (lv_room (Nat.le_of_ble_eq_true rfl)) dX6_gather_108 ⟨Nat.le_of_ble_eq_true rfl, Nat.le_of_ble_eq_true rfl⟩) hS (fun q _ h => hFc q h) hFc (fun u t H1 locs ht hvm hw hB hz1 hk1 hS => ?_)
          obtain ⟨rv_19, z_20, _, A_21⟩ := u
          obtain ⟨hP, hK1, hD1⟩ := hB
          rw [ht] at hP
          have hD := hD1.weaken (fun k q _ h => hFc q.1 h)
          have hP : va_P D vwCl (cw_w C L K z_20 r A_21) H1 := hP
          have hD : va_D Ad (cw_w C L K z_20 r A_21) := hD
          generalize H1 = H at hP hS ⊢
          refine W.eq (g2 := F0 m 111 ls []) rfl ?_
          exact L111 z_20 A_21 x6 hw H locs ls hP hD hS (lv_sub hl [1, 2, 3, 4, 5, 6, 7] rfl)
    refine lv_iload hx hb dX6_gather_17 (lv_at hl 5 rfl) ?_
    refine lv_aload_n hx hb dX6_gather_19 rfl (lv_at hl 1 rfl) ?_
    obtain ⟨hO_23, hw⟩ := hw
    refine cw_get (ci := 2) (v := .ref (r y1 1)) hx hb hts hin2 hown hK hP hO_23.1 hO_23.2 rfl 1 (by decide) (hts (.fieldLink RX6 43 "HiddenMoves$Game" "sides" "[LHiddenMoves$Side;") (List.mem_cons_of_mem _ (List.mem_append_left _ (List.mem_append_left _ (List.mem_append_left _ (List.mem_append_left _ (List.mem_append_left _ (List.mem_append_left _ (List.mem_of_getElem? (i := 0) rfl))))))))) (fun _ h9 => h9) rfl dX6_gather_20 ?_
    refine lv_iload_n hx hb dX6_gather_23 rfl (lv_at hl 2 rfl) ?_
    obtain ⟨hO_24, hw⟩ := hw
    obtain ⟨h9i, hw⟩ := hw
    refine cw_ald hx hb hK hP hO_24.1 hO_24.2.2 rfl h9i hO_24.2.1 dX6_gather_24 ?_
    obtain ⟨hO_25, hw⟩ := hw
    refine cw_get (ci := 7) (v := .int (hz_i (z (cw_g K (r y1 1) (y2.toNat)) 5))) hx hb hts hin7 hown hK hP hO_25.1 hO_25.2 rfl 5 (by decide) (hts (.fieldLink RX6 49 "HiddenMoves$Side" "lines" "I") (List.mem_cons_of_mem _ (List.mem_append_left _ (List.mem_append_left _ (List.mem_append_left _ (List.mem_append_left _ (List.mem_append_left _ (List.mem_append_left _ (List.mem_of_getElem? (i := 1) rfl))))))))) (fun _ h9 => h9) rfl dX6_gather_25 ?_
    obtain ⟨h9a, hw⟩ := hw
    obtain ⟨h9b, hw⟩ := hw
    refine hz_icmp_ge (tgt := 123) hx hb dX6_gather_28 (by decide) h9a h9b (fun c_26 => ?_) (fun c_26 => ?_)
    · have hw := hw.1 c_26
      subst hQQ
      subst hAe
      exact W.vret hx hb hr (fun t ht hW => ⟨⟨(0, z, r, A), rfl, hw, by rw [ht]; exact hP, va_K.moved hW.alike hK, hD⟩, hS.F ht⟩) hS.2.2 dX6_gather_123
    · have hw := hw.2 c_26
      refine lv_aload_n hx hb dX6_gather_31 rfl (lv_at hl 0 rfl) ?_
      obtain ⟨hO_27, hw⟩ := hw
      refine cw_get (ci := 6) (v := .ref (r y0 2)) hx hb hts hin6 hown hK hP hO_27.1 hO_27.2 rfl 2 (by decide) (hts (.fieldLink RX6 21 "HiddenMoves$Reply" "gains" "[LHiddenMoves$Big;") (List.mem_cons_of_mem _ (List.mem_append_left _ (List.mem_append_left _ (List.mem_append_left _ (List.mem_append_left _ (List.mem_append_left _ (List.mem_append_left _ (List.mem_of_getElem? (i := 2) rfl))))))))) (fun _ h9 => h9) rfl dX6_gather_32 ?_
      refine lv_iload hx hb dX6_gather_35 (lv_at hl 5 rfl) ?_
      obtain ⟨hO_28, hw⟩ := hw
      obtain ⟨h9i, hw⟩ := hw
      refine cw_ald hx hb hK hP hO_28.1 hO_28.2.2 rfl h9i hO_28.2.1 dX6_gather_37 ?_
      refine lv_lconst (v := hz_l 0) hx hb dX6_gather_38 (by decide +kernel) ?_
      obtain ⟨hO_32, hw⟩ := hw
      have hFc := cw_free hD hS hA
      obtain ⟨q9, hq9⟩ := cw_at (C := C) (z := z) (r := r) (A := A) hO_32.1 hO_32.2
      refine va_callv (va_runV (As := [.long (hz_l 0)]) (rest := []) ⟨hx, hb, hml, hown, hts⟩ (k_c0_put l D _ C L K z r A (cw_g K (r y0 2) (x5.toNat)) 0 _ hw) (cwV 1 hts gX6_gather_X0_put rfl rfl rfl (by decide +kernel) ⟨Nat.le_of_ble_eq_true rfl, Nat.le_of_ble_eq_true rfl⟩) ⟨hm_blind, va_recv hK hP (ci := 0) (q0 := q9) rfl hq9, hm_pre hP hK hD hE⟩ rfl rfl hl.1 rfl (lv_room (Nat.le_of_ble_eq_true rfl)) dX6_gather_39 ⟨Nat.le_of_ble_eq_true rfl, Nat.le_of_ble_eq_true rfl⟩) hS (fun q _ h => hFc q h) hFc (fun u t H1 locs ht hvm hw hB hz1 hk1 hS => ?_)
      obtain ⟨rv_29, z_30, _, A_31⟩ := u
      obtain ⟨hP, hK1, hD1⟩ := hB
      rw [ht] at hP
      have hD := hD1.weaken (fun k q _ h => hFc q.1 h)
      have hP : va_P D vwCl (cw_w C L K z_30 r A_31) H1 := hP
      have hD : va_D Ad (cw_w C L K z_30 r A_31) := hD
      generalize H1 = H at hP hS ⊢
      refine W.eq (g2 := F0 m 42 ls []) rfl ?_
      refine lv_iconst (v := hz_i 0) hx hb dX6_gather_42 (by decide +kernel) ?_
      refine lv_istore (lv' := [(6, .int (hz_i 0)), (0, .ref y0), (1, .ref y1), (2, .int (hz_i y2)), (3, .ref y3), (4, .int (hz_i x4)), (5, .int (hz_i x5))]) hx hb dX6_gather_43 hl (by decide) rfl (fun ls hl => ?_)
      exact L45 z_30 A_31 x5 0 hw H locs ls hP hD hS (lv_sub hl [1, 2, 3, 4, 5, 6, 0] rfl)
  have hP := hP0; have hD := hD0; have hS := hS0; have hl := hl0; have hw := hw0
  obtain ⟨H, hH⟩ : ∃ H : Heap, H = s.heap := ⟨_, rfl⟩
  obtain ⟨locs, hlocs⟩ : ∃ L : List Loc, L = [] := ⟨_, rfl⟩
  rw [← hH] at hP
  have hS : va_S Ad s.heap H locs := by rw [hH, hlocs]; exact hS
  refine mw_HL hH hlocs ?_
  refine lv_aload_n hx hb dX6_gather_0 rfl (lv_at hl 1 rfl) ?_
  obtain ⟨hO_33, hw⟩ := hw
  refine cw_get (ci := 2) (v := .ref (r y1 1)) hx hb hts hin2 hown hK hP hO_33.1 hO_33.2 rfl 1 (by decide) (hts (.fieldLink RX6 43 "HiddenMoves$Game" "sides" "[LHiddenMoves$Side;") (List.mem_cons_of_mem _ (List.mem_append_left _ (List.mem_append_left _ (List.mem_append_left _ (List.mem_append_left _ (List.mem_append_left _ (List.mem_append_left _ (List.mem_of_getElem? (i := 0) rfl))))))))) (fun _ h9 => h9) rfl dX6_gather_1 ?_
  refine lv_iload_n hx hb dX6_gather_4 rfl (lv_at hl 2 rfl) ?_
  have hFc := cw_free hD hS hA
  refine va_calli (va_runSN (As := [.int (hz_i y2)]) (rest := [.ref (r y1 1)]) ⟨hx, hb, hml, hown, hts⟩ (k_c11_other l D _ C L K z r A y2 _ hw) ⟨va_cnB 1 hts gX6_gather_X11_other_n85 rfl rfl rfl (hE.nest_RX6_85) (hts (.initialized RX11) (List.mem_cons_of_mem _ (List.mem_append_left _ (List.mem_append_left _ (List.mem_append_left _ (List.mem_append_left _ (List.mem_append_left _ (List.mem_append_left _ (List.mem_of_getElem? (i := 7) rfl))))))))) (by decide +kernel) ⟨Nat.le_of_ble_eq_true rfl, Nat.le_of_ble_eq_true rfl⟩, hts (.static yX11_other) (List.mem_cons_of_mem _ (List.mem_append_left _ (List.mem_append_left _ (List.mem_append_left _ (List.mem_append_left _ (List.mem_append_left _ (List.mem_append_left _ (List.mem_of_getElem? (i := 6) rfl)))))))), trivial⟩ ⟨hm_blind, hm_pre hP hK hD hE⟩ rfl rfl hl.1 rfl (lv_room (Nat.le_of_ble_eq_true rfl)) dX6_gather_5 ⟨Nat.le_of_ble_eq_true rfl, Nat.le_of_ble_eq_true rfl⟩) hS (fun q _ h => hFc q h) hFc (fun rv u t H1 locs ht hvm hw hB hz1 hk1 hS => ?_)
  obtain ⟨rv_34, _, _, _⟩ := u
  obtain ⟨hP, hK1, hD1⟩ := hB
  rw [ht] at hP
  obtain ⟨hrv, hw⟩ := hw
  subst hrv
  have hD := hD1.weaken (fun k q _ h => hFc q.1 h)
  have hP : va_P D vwCl (cw_w C L K z r A) H1 := hP
  have hD : va_D Ad (cw_w C L K z r A) := hD
  generalize H1 = H at hP hS ⊢
  refine W.eq (g2 := F0 m 8 ls [.int (hz_i rv_34), .ref (r y1 1)]) rfl ?_
  obtain ⟨hO_35, hw⟩ := hw
  obtain ⟨h9i, hw⟩ := hw
  refine cw_ald hx hb hK hP hO_35.1 hO_35.2.2 rfl h9i hO_35.2.1 dX6_gather_8 ?_
  obtain ⟨hO_36, hw⟩ := hw
  refine cw_get (ci := 7) (v := .int (hz_i (z (cw_g K (r y1 1) (rv_34.toNat)) 5))) hx hb hts hin7 hown hK hP hO_36.1 hO_36.2 rfl 5 (by decide) (hts (.fieldLink RX6 49 "HiddenMoves$Side" "lines" "I") (List.mem_cons_of_mem _ (List.mem_append_left _ (List.mem_append_left _ (List.mem_append_left _ (List.mem_append_left _ (List.mem_append_left _ (List.mem_append_left _ (List.mem_of_getElem? (i := 1) rfl))))))))) (fun _ h9 => h9) rfl dX6_gather_9 ?_
  refine hz_topi (fun x4_37 hx4_37 => ?_)
  have hw := hw x4_37 hx4_37
  refine lv_istore (lv' := [(4, .int (hz_i x4_37)), (0, .ref y0), (1, .ref y1), (2, .int (hz_i y2)), (3, .ref y3)]) hx hb dX6_gather_12 hl (by decide) rfl (fun ls hl => ?_)
  refine lv_iconst (v := hz_i 0) hx hb dX6_gather_14 (by decide +kernel) ?_
  refine lv_istore (lv' := [(5, .int (hz_i 0)), (4, .int (hz_i x4_37)), (0, .ref y0), (1, .ref y1), (2, .int (hz_i y2)), (3, .ref y3)]) hx hb dX6_gather_15 hl (by decide) rfl (fun ls hl => ?_)
  exact L17 z A x4_37 0 hw H locs ls hP hD hS (lv_sub hl [2, 3, 4, 5, 1, 0] rfl)

-- 17.c03
noncomputable def wp_c6_bestMove_60 (L : List Nat) (K : Nat → cw_K) (z : Nat → Nat → Int) (r : Nat → Nat → Nat) (A : Nat → Nat → Int) (y0 : Nat) (y1 : Nat) (y2 : Int) (y3 : Int) (x4 : Int) (x5 : Int) (P6 : Int → Int → Prop) (Q : Int → Prop) : Prop := ∀ x5_1 : Int, x5_1 = x5 + 1 → P6 x4 x5_1
noncomputable def wp_c6_bestMove_6 (L : List Nat) (K : Nat → cw_K) (z : Nat → Nat → Int) (r : Nat → Nat → Nat) (A : Nat → Nat → Int) (y0 : Nat) (y1 : Nat) (y2 : Int) (y3 : Int) (x4 : Int) (x5 : Int) (Q : Int → Prop) : Prop := ∀ P6 : Int → Int → Prop, (∀ (x4 : Int) (x5 : Int), cw_O L K 7 y1 ∧ cw_A L K 0 (r y1 2) ∧ ((0 : Int) ≤ y2 ∧ y2 < (cw_n K (r y1 2) : Int)) ∧ hz_rI x5 ∧ hz_rI (A (r y1 2) (y2.toNat)) ∧ ((A (r y1 2) (y2.toNat) ≤ x5 → Q x4) ∧ (¬ (A (r y1 2) (y2.toNat) ≤ x5) → cw_O L K 6 y0 ∧ cw_A L K 0 (r y1 6) ∧ ((0 : Int) ≤ y2 ∧ y2 < (cw_n K (r y1 6) : Int)) ∧ cw_G L K 4 (r y0 2) ∧ ((0 : Int) ≤ (A (r y1 6) (y2.toNat)) + x5 ∧ (A (r y1 6) (y2.toNat)) + x5 < (cw_n K (r y0 2) : Int)) ∧ ((0 : Int) ≤ y2 ∧ y2 < (cw_n K (r y1 6) : Int)) ∧ ((0 : Int) ≤ (A (r y1 6) (y2.toNat)) + x4 ∧ (A (r y1 6) (y2.toNat)) + x4 < (cw_n K (r y0 2) : Int)) ∧ cw_O L K 0 (cw_g K (r y0 2) (((A (r y1 6) (y2.toNat)) + x5).toNat)) ∧ wp_c0_order L K z r A (cw_g K (r y0 2) (((A (r y1 6) (y2.toNat)) + x5).toNat)) (cw_g K (r y0 2) (((A (r y1 6) (y2.toNat)) + x4).toNat)) (fun rv_8 => hz_rI rv_8 ∧ hz_rI y3 ∧ ((¬ rv_8 = y3 → wp_c6_bestMove_60 L K z r A y0 y1 y2 y3 x4 x5 P6 Q) ∧ (rv_8 = y3 → wp_c6_bestMove_60 L K z r A y0 y1 y2 y3 x5 x5 P6 Q))))) → P6 x4 x5) → P6 x4 x5
noncomputable def wp_c6_bestMove (L : List Nat) (K : Nat → cw_K) (z : Nat → Nat → Int) (r : Nat → Nat → Nat) (A : Nat → Nat → Int) (y0 : Nat) (y1 : Nat) (y2 : Int) (y3 : Int) (Q : Int → Prop) : Prop := wp_c6_bestMove_6 L K z r A y0 y1 y2 y3 0 1  Q
set_option maxHeartbeats 4000000 in
set_option maxRecDepth 100000 in
theorem k_c6_bestMove (l : Launch) (D : va_G) (sz : Nat) (C : Nat → ClassId) (L : List Nat) (K : Nat → cw_K) (z : Nat → Nat → Int) (r : Nat → Nat → Nat) (A : Nat → Nat → Int) (y0 : Nat) (y1 : Nat) (y2 : Int) (y3 : Int) (Q : Int → Prop) (hw : wp_c6_bestMove L K z r A y0 y1 y2 y3 Q) : Met l yX6_bestMove wsX6_bestMove ({ frames := 3, cells := 0, slots := 0, locals := 64 } : Room) (va_Pc [.ref y0, .ref y1, .int (hz_i y2), .int (hz_i y3)] (hm_P D (cw_w C L K z r A) (cw_t C) sz)) (va_Qi (S := Int × (Nat → Nat → Int) × (Nat → Nat → Nat) × (Nat → Nat → Int)) (fun r u => r = hz_i u.1 ∧ Q u.1) (fun u t => hm_B D (va_A (cw_w C L K z r A) sz) (cw_w C L K z r A) (cw_t C) t) (va_A (cw_w C L K z r A) sz)) 0 0 (va_A (cw_w C L K z r A) sz) := by
  refine Met.ofW (cc := cX6_bestMove) (maxL := 7) (ret := (some .int)) (by decide) rfl ?_
  intro p e s m args below meth c s₁ B hml hv
  obtain ⟨rfl, hsz, hP, hK, hD0, hE⟩ := hv
  have hx := B.exec
  have hb := B.bytes
  have hr := B.returns
  have hts := atoms_spec (ws := wsX6_bestMove) B.pre
  have hown : s.vm.findClass RX6 = some m.cls := findClass_of_methodNamed B.named
  have hlocks := B.notSynchronized
  have hin6 : ∀ w ∈ u_ws RX6 TX6 5, w ∈ wsX6_bestMove := fun w h => List.mem_cons_of_mem _ (List.mem_append_left _ (List.mem_append_right _ (h)))
  have hin7 : ∀ w ∈ u_ws RX7 TX7 8, w ∈ wsX6_bestMove := fun w h => List.mem_cons_of_mem _ (List.mem_append_left _ (List.mem_append_left _ (List.mem_append_right _ (h))))
  subst hsz
  have hD := hD0.self (sz := s.heap.size)
  generalize hAe : va_A (cw_w C L K z r A) s.heap.size = Ad at hD ⊢
  have hA : ∀ q : Nat, s.heap.size ≤ q → Ad q := fun q h => by rw [← hAe]; exact Or.inr h
  have hS : va_S Ad s.heap s.heap [] := va_S.rf
  have hl := lv_entry ([.ref y0, .ref y1, .int (hz_i y2), .int (hz_i y3)]) (n := 7) (Nat.le_of_ble_eq_true rfl)
  rw [lg_entry_eq]
  generalize (lg_sl ([.ref y0, .ref y1, .int (hz_i y2), .int (hz_i y3)]) ++ List.replicate (7 - (lg_sl ([.ref y0, .ref y1, .int (hz_i y2), .int (hz_i y3)])).length) Slot.unset).toArray = ls at hl ⊢
  have hl : lv_has ls 7 [(0, .ref y0), (1, .ref y1), (2, .int (hz_i y2)), (3, .int (hz_i y3))] := hl
  refine mw_Q (fun QQ hQQ => ?_)
  have hP0 := hP; have hD0 := hD; have hS0 := hS; have hl0 := hl; have hw0 := hw
  clear hP hD hS hl hw
  have L6 : ∀ (x4 : Int) (x5 : Int), wp_c6_bestMove_6 L K z r A y0 y1 y2 y3 x4 x5  Q → ∀ (H : Heap) (locs : List Loc) (ls : Array Slot), va_P D vwCl (cw_w C L K z r A) H → va_D Ad (cw_w C L K z r A) → va_S Ad s.heap H locs → lv_has ls 7 [(0, .ref y0), (1, .ref y1), (2, .int (hz_i y2)), (3, .int (hz_i y3)), (4, .int (hz_i x4)), (5, .int (hz_i x5))] → W p l e (headSpec wsX6_bestMove ({ frames := 3, cells := 0, slots := 0, locals := 64 } : Room)).room s m (List.toArray [.ref y0, .ref y1, .int (hz_i y2), .int (hz_i y3)]) below meth c H locs 0 0 QQ (F0 m 6 ls []) := by
    intro x4 x5 hw
    obtain ⟨P6, hP6⟩ : ∃ P : Int → Int → Prop, ∀ (x4 : Int) (x5 : Int), P x4 x5 ↔ (∀ (H : Heap) (locs : List Loc) (ls : Array Slot), va_P D vwCl (cw_w C L K z r A) H → va_D Ad (cw_w C L K z r A) → va_S Ad s.heap H locs → lv_has ls 7 [(0, .ref y0), (1, .ref y1), (2, .int (hz_i y2)), (3, .int (hz_i y3)), (4, .int (hz_i x4)), (5, .int (hz_i x5))] → W p l e (headSpec wsX6_bestMove ({ frames := 3, cells := 0, slots := 0, locals := 64 } : Room)).room s m (List.toArray [.ref y0, .ref y1, .int (hz_i y2), .int (hz_i y3)]) below meth c H locs 0 0 QQ (F0 m 6 ls [])) := ⟨fun (x4 : Int) (x5 : Int) => ∀ (H : Heap) (locs : List Loc) (ls : Array Slot), va_P D vwCl (cw_w C L K z r A) H → va_D Ad (cw_w C L K z r A) → va_S Ad s.heap H locs → lv_has ls 7 [(0, .ref y0), (1, .ref y1), (2, .int (hz_i y2)), (3, .int (hz_i y3)), (4, .int (hz_i x4)), (5, .int (hz_i x5))] → W p l e (headSpec wsX6_bestMove ({ frames := 3, cells := 0, slots := 0, locals := 64 } : Room)).room s m (List.toArray [.ref y0, .ref y1, .int (hz_i y2), .int (hz_i y3)]) below meth c H locs 0 0 QQ (F0 m 6 ls []), fun _ _ => Iff.rfl⟩
    refine (hP6 x4 x5).mp (hw P6 ?_)
    intro x4 x5 hw
    refine (hP6 x4 x5).mpr ?_
    intro H locs ls hP hD hS hl
    have L60 : ∀ (x4 : Int) (x5 : Int), wp_c6_bestMove_60 L K z r A y0 y1 y2 y3 x4 x5 P6 Q → ∀ (H : Heap) (locs : List Loc) (ls : Array Slot), va_P D vwCl (cw_w C L K z r A) H → va_D Ad (cw_w C L K z r A) → va_S Ad s.heap H locs → lv_has ls 7 [(0, .ref y0), (1, .ref y1), (2, .int (hz_i y2)), (3, .int (hz_i y3)), (4, .int (hz_i x4)), (5, .int (hz_i x5))] → W p l e (headSpec wsX6_bestMove ({ frames := 3, cells := 0, slots := 0, locals := 64 } : Room)).room s m (List.toArray [.ref y0, .ref y1, .int (hz_i y2), .int (hz_i y3)]) below meth c H locs 0 0 QQ (F0 m 60 ls []) := by
      intro x4 x5 hw H locs ls hP hD hS hl
      obtain ⟨x5_1, hx5_1⟩ : ∃ y : Int, y = x5 + 1 := ⟨_, rfl⟩
      have hw := hw x5_1 hx5_1
      refine lv_iinc (v := hz_i x5_1) (lv' := [(5, .int (hz_i x5_1)), (0, .ref y0), (1, .ref y1), (2, .int (hz_i y2)), (3, .int (hz_i y3)), (4, .int (hz_i x4))]) hx hb dX6_bestMove_60 hl (k := 5) rfl (by rw [hx5_1]; exact hz_i_add _ _) (by decide) rfl (fun ls hl => ?_)
      refine lv_goto (tgt := 6) hx hb dX6_bestMove_63 (by decide) ?_
      exact (hP6 x4 x5_1).mp hw H locs ls hP hD hS (lv_sub hl [1, 2, 3, 4, 5, 0] rfl)
    refine lv_iload hx hb dX6_bestMove_6 (lv_at hl 5 rfl) ?_
    refine lv_aload_n hx hb dX6_bestMove_8 rfl (lv_at hl 1 rfl) ?_
    obtain ⟨hO_2, hw⟩ := hw
    refine cw_get (ci := 7) (v := .ref (r y1 2)) hx hb hts hin7 hown hK hP hO_2.1 hO_2.2 rfl 2 (by decide) (hts (.fieldLink RX6 93 "HiddenMoves$Side" "moves" "[I") (List.mem_cons_of_mem _ (List.mem_append_left _ (List.mem_append_left _ (List.mem_append_left _ (List.mem_of_getElem? (i := 0) rfl)))))) (fun _ h9 => h9) rfl dX6_bestMove_9 ?_
    refine lv_iload_n hx hb dX6_bestMove_12 rfl (lv_at hl 2 rfl) ?_
    obtain ⟨hO_3, hw⟩ := hw
    obtain ⟨h9i, hw⟩ := hw
    refine cw_ild hx hb hK hP hO_3.1 hO_3.2.2 h9i hO_3.2.1 dX6_bestMove_13 ?_
    obtain ⟨h9a, hw⟩ := hw
    obtain ⟨h9b, hw⟩ := hw
    refine hz_icmp_ge (tgt := 66) hx hb dX6_bestMove_14 (by decide) h9a h9b (fun c_4 => ?_) (fun c_4 => ?_)
    · have hw := hw.1 c_4
      refine lv_iload hx hb dX6_bestMove_66 (lv_at hl 4 rfl) ?_
      subst hQQ
      subst hAe
      exact W.iret (v := hz_i x4) hx hb hr (fun t ht hW => ⟨⟨hz_i x4, (x4, z, r, A), rfl, ⟨rfl, hw⟩, by rw [ht]; exact hP, va_K.moved hW.alike hK, hD⟩, hS.F ht⟩) hS.2.2 dX6_bestMove_68
    · have hw := hw.2 c_4
      refine lv_aload_n hx hb dX6_bestMove_17 rfl (lv_at hl 0 rfl) ?_
      obtain ⟨hO_5, hw⟩ := hw
      refine cw_get (ci := 6) (v := .ref (r y0 2)) hx hb hts hin6 hown hK hP hO_5.1 hO_5.2 rfl 2 (by decide) (hts (.fieldLink RX6 21 "HiddenMoves$Reply" "gains" "[LHiddenMoves$Big;") (List.mem_cons_of_mem _ (List.mem_append_left _ (List.mem_append_left _ (List.mem_append_left _ (List.mem_of_getElem? (i := 1) rfl)))))) (fun _ h9 => h9) rfl dX6_bestMove_18 ?_
      refine lv_aload_n hx hb dX6_bestMove_21 rfl (lv_at hl 1 rfl) ?_
      refine cw_get (ci := 7) (v := .ref (r y1 6)) hx hb hts hin7 hown hK hP hO_2.1 hO_2.2 rfl 6 (by decide) (hts (.fieldLink RX6 78 "HiddenMoves$Side" "firstLines" "[I") (List.mem_cons_of_mem _ (List.mem_append_left _ (List.mem_append_left _ (List.mem_append_left _ (List.mem_of_getElem? (i := 2) rfl)))))) (fun _ h9 => h9) rfl dX6_bestMove_22 ?_
      refine lv_iload_n hx hb dX6_bestMove_25 rfl (lv_at hl 2 rfl) ?_
      obtain ⟨hO_6, hw⟩ := hw
      obtain ⟨h9i, hw⟩ := hw
      refine cw_ild hx hb hK hP hO_6.1 hO_6.2.2 h9i hO_6.2.1 dX6_bestMove_26 ?_
      refine lv_iload hx hb dX6_bestMove_27 (lv_at hl 5 rfl) ?_
      refine hz_iadd hx hb dX6_bestMove_29 ?_
      obtain ⟨hO_7, hw⟩ := hw
      obtain ⟨h9i, hw⟩ := hw
      refine cw_ald hx hb hK hP hO_7.1 hO_7.2.2 rfl h9i hO_7.2.1 dX6_bestMove_30 ?_
      refine lv_astore (lv' := [(6, .ref (cw_g K (r y0 2) (((A (r y1 6) (y2.toNat)) + x5).toNat))), (0, .ref y0), (1, .ref y1), (2, .int (hz_i y2)), (3, .int (hz_i y3)), (4, .int (hz_i x4)), (5, .int (hz_i x5))]) hx hb dX6_bestMove_31 hl (by decide) rfl (fun ls hl => ?_)
      refine lv_aload hx hb dX6_bestMove_33 (lv_at hl 0 rfl) ?_
      refine lv_aload_n hx hb dX6_bestMove_35 rfl (lv_at hl 1 rfl) ?_
      refine cw_get (ci := 6) (v := .ref (r y0 2)) hx hb hts hin6 hown hK hP hO_5.1 hO_5.2 rfl 2 (by decide) (hts (.fieldLink RX6 21 "HiddenMoves$Reply" "gains" "[LHiddenMoves$Big;") (List.mem_cons_of_mem _ (List.mem_append_left _ (List.mem_append_left _ (List.mem_append_left _ (List.mem_of_getElem? (i := 1) rfl)))))) (fun _ h9 => h9) rfl dX6_bestMove_36 ?_
      refine lv_aload_n hx hb dX6_bestMove_39 rfl (lv_at hl 2 rfl) ?_
      refine cw_get (ci := 7) (v := .ref (r y1 6)) hx hb hts hin7 hown hK hP hO_2.1 hO_2.2 rfl 6 (by decide) (hts (.fieldLink RX6 78 "HiddenMoves$Side" "firstLines" "[I") (List.mem_cons_of_mem _ (List.mem_append_left _ (List.mem_append_left _ (List.mem_append_left _ (List.mem_of_getElem? (i := 2) rfl)))))) (fun _ h9 => h9) rfl dX6_bestMove_40 ?_
      refine lv_iload_n hx hb dX6_bestMove_43 rfl (lv_at hl 3 rfl) ?_
      obtain ⟨h9i, hw⟩ := hw
      refine cw_ild hx hb hK hP hO_6.1 hO_6.2.2 h9i hO_6.2.1 dX6_bestMove_44 ?_
      refine lv_iload hx hb dX6_bestMove_45 (lv_at hl 5 rfl) ?_
      refine hz_iadd hx hb dX6_bestMove_47 ?_
      obtain ⟨h9i, hw⟩ := hw
      refine cw_ald hx hb hK hP hO_7.1 hO_7.2.2 rfl h9i hO_7.2.1 dX6_bestMove_48 ?_
      obtain ⟨hO_9, hw⟩ := hw
      have hFc := cw_free hD hS hA
      obtain ⟨q9, hq9⟩ := cw_at (C := C) (z := z) (r := r) (A := A) hO_9.1 hO_9.2
      refine va_calli (va_runV (As := [.ref (cw_g K (r y0 2) (((A (r y1 6) (y2.toNat)) + x4).toNat))]) (rest := []) ⟨hx, hb, hml, hown, hts⟩ (k_c0_order l D _ C L K z r A (cw_g K (r y0 2) (((A (r y1 6) (y2.toNat)) + x5).toNat)) (cw_g K (r y0 2) (((A (r y1 6) (y2.toNat)) + x4).toNat)) _ hw) (cwV 1 hts gX6_bestMove_X0_order rfl rfl rfl (by decide +kernel) ⟨Nat.le_of_ble_eq_true rfl, Nat.le_of_ble_eq_true rfl⟩) ⟨hm_blind, va_recv hK hP (ci := 0) (q0 := q9) rfl hq9, hm_pre hP hK hD hE⟩ rfl rfl hl.1 rfl (lv_room (Nat.le_of_ble_eq_true rfl)) dX6_bestMove_49 ⟨Nat.le_of_ble_eq_true rfl, Nat.le_of_ble_eq_true rfl⟩) hS (fun q _ h => hFc q h) hFc (fun rv u t H1 locs ht hvm hw hB hz1 hk1 hS => ?_)
      obtain ⟨rv_8, _, _, _⟩ := u
      obtain ⟨hP, hK1, hD1⟩ := hB
      rw [ht] at hP
      obtain ⟨hrv, hw⟩ := hw
      subst hrv
      have hD := hD1.weaken (fun k q _ h => hFc q.1 h)
      have hP : va_P D vwCl (cw_w C L K z r A) H1 := hP
      have hD : va_D Ad (cw_w C L K z r A) := hD
      generalize H1 = H at hP hS ⊢
      refine W.eq (g2 := F0 m 52 ls [.int (hz_i rv_8)]) rfl ?_
      refine lv_iload_n hx hb dX6_bestMove_52 rfl (lv_at hl 4 rfl) ?_
      obtain ⟨h9a, hw⟩ := hw
      obtain ⟨h9b, hw⟩ := hw
      refine hz_icmp_ne (tgt := 60) hx hb dX6_bestMove_53 (by decide) h9a h9b (fun c_10 => ?_) (fun c_10 => ?_)
      · have hw := hw.1 c_10
        exact L60 x4 x5 hw H locs ls hP hD hS (lv_sub hl [1, 2, 3, 4, 5, 6] rfl)
      · have hw := hw.2 c_10
        refine lv_iload hx hb dX6_bestMove_56 (lv_at hl 6 rfl) ?_
        refine lv_istore (lv' := [(4, .int (hz_i x5)), (6, .ref (cw_g K (r y0 2) (((A (r y1 6) (y2.toNat)) + x5).toNat))), (0, .ref y0), (1, .ref y1), (2, .int (hz_i y2)), (3, .int (hz_i y3)), (5, .int (hz_i x5))]) hx hb dX6_bestMove_58 hl (by decide) rfl (fun ls hl => ?_)
        exact L60 x5 x5 hw H locs ls hP hD hS (lv_sub hl [2, 3, 4, 5, 0, 6] rfl)
  have hP := hP0; have hD := hD0; have hS := hS0; have hl := hl0; have hw := hw0
  obtain ⟨H, hH⟩ : ∃ H : Heap, H = s.heap := ⟨_, rfl⟩
  obtain ⟨locs, hlocs⟩ : ∃ L : List Loc, L = [] := ⟨_, rfl⟩
  rw [← hH] at hP
  have hS : va_S Ad s.heap H locs := by rw [hH, hlocs]; exact hS
  refine mw_HL hH hlocs ?_
  refine lv_iconst (v := hz_i 0) hx hb dX6_bestMove_0 (by decide +kernel) ?_
  refine lv_istore (lv' := [(4, .int (hz_i 0)), (0, .ref y0), (1, .ref y1), (2, .int (hz_i y2)), (3, .int (hz_i y3))]) hx hb dX6_bestMove_1 hl (by decide) rfl (fun ls hl => ?_)
  refine lv_iconst (v := hz_i 1) hx hb dX6_bestMove_3 (by decide +kernel) ?_
  refine lv_istore (lv' := [(5, .int (hz_i 1)), (4, .int (hz_i 0)), (0, .ref y0), (1, .ref y1), (2, .int (hz_i y2)), (3, .int (hz_i y3))]) hx hb dX6_bestMove_4 hl (by decide) rfl (fun ls hl => ?_)
  exact L6 0 1 hw H locs ls hP hD hS (lv_sub hl [2, 3, 4, 5, 1, 0] rfl)

noncomputable def wp_c7_setOf (L : List Nat) (K : Nat → cw_K) (z : Nat → Nat → Int) (r : Nat → Nat → Nat) (A : Nat → Nat → Int) (y0 : Int) (Q : Int → Prop) : Prop := hz_rI y0 ∧ Q (y0.tdiv 512)
set_option maxHeartbeats 4000000 in
set_option maxRecDepth 100000 in
theorem k_c7_setOf (l : Launch) (D : va_G) (sz : Nat) (C : Nat → ClassId) (L : List Nat) (K : Nat → cw_K) (z : Nat → Nat → Int) (r : Nat → Nat → Nat) (A : Nat → Nat → Int) (y0 : Int) (Q : Int → Prop) (hw : wp_c7_setOf L K z r A y0 Q) : Met l yX7_setOf wsX7_setOf ({ frames := 0, cells := 0, slots := 0, locals := 0 } : Room) (va_Pc [.int (hz_i y0)] (hm_P D (cw_w C L K z r A) (cw_t C) sz)) (va_Qi (S := Int × (Nat → Nat → Int) × (Nat → Nat → Nat) × (Nat → Nat → Int)) (fun r u => r = hz_i u.1 ∧ Q u.1) (fun u t => hm_B D (va_A (cw_w C L K z r A) sz) (cw_w C L K z r A) (cw_t C) t) (va_A (cw_w C L K z r A) sz)) 0 0 (va_A (cw_w C L K z r A) sz) := by
  refine Met.ofW (cc := cX7_setOf) (maxL := 1) (ret := (some .int)) (by decide) rfl ?_
  intro p e s m args below meth c s₁ B hml hv
  obtain ⟨rfl, hsz, hP, hK, hD0, hE⟩ := hv
  have hx := B.exec
  have hb := B.bytes
  have hr := B.returns
  have hts := atoms_spec (ws := wsX7_setOf) B.pre
  have hown : s.vm.findClass RX7 = some m.cls := findClass_of_methodNamed B.named
  have hlocks := B.notSynchronized
  subst hsz
  have hD := hD0.self (sz := s.heap.size)
  generalize hAe : va_A (cw_w C L K z r A) s.heap.size = Ad at hD ⊢
  have hA : ∀ q : Nat, s.heap.size ≤ q → Ad q := fun q h => by rw [← hAe]; exact Or.inr h
  have hS : va_S Ad s.heap s.heap [] := va_S.rf
  have hl := lv_entry ([.int (hz_i y0)]) (n := 1) (Nat.le_of_ble_eq_true rfl)
  rw [lg_entry_eq]
  generalize (lg_sl ([.int (hz_i y0)]) ++ List.replicate (1 - (lg_sl ([.int (hz_i y0)])).length) Slot.unset).toArray = ls at hl ⊢
  have hl : lv_has ls 1 [(0, .int (hz_i y0))] := hl
  refine mw_Q (fun QQ hQQ => ?_)
  have hP0 := hP; have hD0 := hD; have hS0 := hS; have hl0 := hl; have hw0 := hw
  clear hP hD hS hl hw
  have hP := hP0; have hD := hD0; have hS := hS0; have hl := hl0; have hw := hw0
  obtain ⟨H, hH⟩ : ∃ H : Heap, H = s.heap := ⟨_, rfl⟩
  obtain ⟨locs, hlocs⟩ : ∃ L : List Loc, L = [] := ⟨_, rfl⟩
  rw [← hH] at hP
  have hS : va_S Ad s.heap H locs := by rw [hH, hlocs]; exact hS
  refine mw_HL hH hlocs ?_
  refine lv_iload_n hx hb dX7_setOf_0 rfl (lv_at hl 0 rfl) ?_
  refine lv_sipush (v := hz_i 512) hx hb dX7_setOf_1 (by decide +kernel) ?_
  obtain ⟨h9a, hw⟩ := hw
  refine hz_idiv hx hb dX7_setOf_4 (by decide) h9a ⟨by decide, by decide⟩ ?_
  subst hQQ
  subst hAe
  exact W.iret (v := hz_i (y0.tdiv 512)) hx hb hr (fun t ht hW => ⟨⟨hz_i (y0.tdiv 512), (y0.tdiv 512, z, r, A), rfl, ⟨rfl, hw⟩, by rw [ht]; exact hP, va_K.moved hW.alike hK, hD⟩, hS.F ht⟩) hS.2.2 dX7_setOf_5

noncomputable def wp_c7_moveOf (L : List Nat) (K : Nat → cw_K) (z : Nat → Nat → Int) (r : Nat → Nat → Nat) (A : Nat → Nat → Int) (y0 : Int) (Q : Int → Prop) : Prop := hz_rI y0 ∧ Q (y0.tmod 512)
set_option maxHeartbeats 4000000 in
set_option maxRecDepth 100000 in
theorem k_c7_moveOf (l : Launch) (D : va_G) (sz : Nat) (C : Nat → ClassId) (L : List Nat) (K : Nat → cw_K) (z : Nat → Nat → Int) (r : Nat → Nat → Nat) (A : Nat → Nat → Int) (y0 : Int) (Q : Int → Prop) (hw : wp_c7_moveOf L K z r A y0 Q) : Met l yX7_moveOf wsX7_moveOf ({ frames := 0, cells := 0, slots := 0, locals := 0 } : Room) (va_Pc [.int (hz_i y0)] (hm_P D (cw_w C L K z r A) (cw_t C) sz)) (va_Qi (S := Int × (Nat → Nat → Int) × (Nat → Nat → Nat) × (Nat → Nat → Int)) (fun r u => r = hz_i u.1 ∧ Q u.1) (fun u t => hm_B D (va_A (cw_w C L K z r A) sz) (cw_w C L K z r A) (cw_t C) t) (va_A (cw_w C L K z r A) sz)) 0 0 (va_A (cw_w C L K z r A) sz) := by
  refine Met.ofW (cc := cX7_moveOf) (maxL := 1) (ret := (some .int)) (by decide) rfl ?_
  intro p e s m args below meth c s₁ B hml hv
  obtain ⟨rfl, hsz, hP, hK, hD0, hE⟩ := hv
  have hx := B.exec
  have hb := B.bytes
  have hr := B.returns
  have hts := atoms_spec (ws := wsX7_moveOf) B.pre
  have hown : s.vm.findClass RX7 = some m.cls := findClass_of_methodNamed B.named
  have hlocks := B.notSynchronized
  subst hsz
  have hD := hD0.self (sz := s.heap.size)
  generalize hAe : va_A (cw_w C L K z r A) s.heap.size = Ad at hD ⊢
  have hA : ∀ q : Nat, s.heap.size ≤ q → Ad q := fun q h => by rw [← hAe]; exact Or.inr h
  have hS : va_S Ad s.heap s.heap [] := va_S.rf
  have hl := lv_entry ([.int (hz_i y0)]) (n := 1) (Nat.le_of_ble_eq_true rfl)
  rw [lg_entry_eq]
  generalize (lg_sl ([.int (hz_i y0)]) ++ List.replicate (1 - (lg_sl ([.int (hz_i y0)])).length) Slot.unset).toArray = ls at hl ⊢
  have hl : lv_has ls 1 [(0, .int (hz_i y0))] := hl
  refine mw_Q (fun QQ hQQ => ?_)
  have hP0 := hP; have hD0 := hD; have hS0 := hS; have hl0 := hl; have hw0 := hw
  clear hP hD hS hl hw
  have hP := hP0; have hD := hD0; have hS := hS0; have hl := hl0; have hw := hw0
  obtain ⟨H, hH⟩ : ∃ H : Heap, H = s.heap := ⟨_, rfl⟩
  obtain ⟨locs, hlocs⟩ : ∃ L : List Loc, L = [] := ⟨_, rfl⟩
  rw [← hH] at hP
  have hS : va_S Ad s.heap H locs := by rw [hH, hlocs]; exact hS
  refine mw_HL hH hlocs ?_
  refine lv_iload_n hx hb dX7_moveOf_0 rfl (lv_at hl 0 rfl) ?_
  refine lv_sipush (v := hz_i 512) hx hb dX7_moveOf_1 (by decide +kernel) ?_
  obtain ⟨h9a, hw⟩ := hw
  refine hz_irem hx hb dX7_moveOf_4 (by decide) h9a ⟨by decide, by decide⟩ ?_
  subst hQQ
  subst hAe
  exact W.iret (v := hz_i (y0.tmod 512)) hx hb hr (fun t ht hW => ⟨⟨hz_i (y0.tmod 512), (y0.tmod 512, z, r, A), rfl, ⟨rfl, hw⟩, by rw [ht]; exact hP, va_K.moved hW.alike hK, hD⟩, hS.F ht⟩) hS.2.2 dX7_moveOf_5

noncomputable def wp_c6_dropUnreached_77 (L : List Nat) (K : Nat → cw_K) (z : Nat → Nat → Int) (r : Nat → Nat → Nat) (A : Nat → Nat → Int) (y0 : Nat) (y1 : Nat) (x2 : Int) (P2 : (Nat → Nat → Int) → Int → Prop) (Q : (Nat → Nat → Int) → Prop) : Prop := ∀ x2_1 : Int, x2_1 = x2 + 1 → P2 A x2_1
noncomputable def wp_c6_dropUnreached_60 (L : List Nat) (K : Nat → cw_K) (z : Nat → Nat → Int) (r : Nat → Nat → Nat) (A : Nat → Nat → Int) (y0 : Nat) (y1 : Nat) (x2 : Int) (t0 : Int) (t1 : Int) (t2 : Nat) (P2 : (Nat → Nat → Int) → Int → Prop) (Q : (Nat → Nat → Int) → Prop) : Prop := cw_A L K 3 t2 ∧ ((0 : Int) ≤ t1 ∧ t1 < (cw_n K t2 : Int)) ∧ (t0 = 0 ∨ t0 = 1) ∧ ∀ A_3 : Nat → Nat → Int, A_3 = hz_s A t2 t1 t0 → cw_O L K 6 y0 ∧ cw_A L K 3 (r y0 1) ∧ ((0 : Int) ≤ x2 ∧ x2 < (cw_n K (r y0 1) : Int)) ∧ hz_rI (A_3 (r y0 1) (x2.toNat)) ∧ ((¬ A_3 (r y0 1) (x2.toNat) = 0 → wp_c6_dropUnreached_77 L K z r A_3 y0 y1 x2 P2 Q) ∧ (A_3 (r y0 1) (x2.toNat) = 0 → cw_A L K 0 (r y0 0) ∧ ((0 : Int) ≤ x2 ∧ x2 < (cw_n K (r y0 0) : Int)) ∧ ∀ A_8 : Nat → Nat → Int, A_8 = hz_s A_3 (r y0 0) x2 0 → wp_c6_dropUnreached_77 L K z r A_8 y0 y1 x2 P2 Q))
noncomputable def wp_c6_dropUnreached_59 (L : List Nat) (K : Nat → cw_K) (z : Nat → Nat → Int) (r : Nat → Nat → Nat) (A : Nat → Nat → Int) (y0 : Nat) (y1 : Nat) (x2 : Int) (t0 : Int) (t1 : Nat) (P2 : (Nat → Nat → Int) → Int → Prop) (Q : (Nat → Nat → Int) → Prop) : Prop := wp_c6_dropUnreached_60 L K z r A y0 y1 x2 0 t0 t1 P2 Q
noncomputable def wp_c6_dropUnreached_55 (L : List Nat) (K : Nat → cw_K) (z : Nat → Nat → Int) (r : Nat → Nat → Nat) (A : Nat → Nat → Int) (y0 : Nat) (y1 : Nat) (x2 : Int) (t0 : Int) (t1 : Nat) (P2 : (Nat → Nat → Int) → Int → Prop) (Q : (Nat → Nat → Int) → Prop) : Prop := wp_c6_dropUnreached_60 L K z r A y0 y1 x2 1 t0 t1 P2 Q
noncomputable def wp_c6_dropUnreached_2 (L : List Nat) (K : Nat → cw_K) (z : Nat → Nat → Int) (r : Nat → Nat → Nat) (A : Nat → Nat → Int) (y0 : Nat) (y1 : Nat) (x2 : Int) (Q : (Nat → Nat → Int) → Prop) : Prop := ∀ P2 : (Nat → Nat → Int) → Int → Prop, (∀ (A : Nat → Nat → Int) (x2 : Int), cw_O L K 7 y1 ∧ hz_rI x2 ∧ hz_rI (z y1 0) ∧ ((z y1 0 ≤ x2 → Q A) ∧ (¬ (z y1 0 ≤ x2) → cw_A L K 0 (r y1 4) ∧ ((0 : Int) ≤ x2 ∧ x2 < (cw_n K (r y1 4) : Int)) ∧ ∀ x3_12 : Int, x3_12 = A (r y1 4) (x2.toNat) → cw_O L K 6 y0 ∧ hz_rI x3_12 ∧ ((x3_12 = (-1) → wp_c6_dropUnreached_55 L K z r A y0 y1 x2 x2 (r y0 1) P2 Q) ∧ (¬ (x3_12 = (-1)) → wp_c7_setOf L K z r A x3_12 (fun rv_15 => cw_A L K 3 (r y0 1) ∧ ((0 : Int) ≤ rv_15 ∧ rv_15 < (cw_n K (r y0 1) : Int)) ∧ hz_rI (A (r y0 1) (rv_15.toNat)) ∧ ((A (r y0 1) (rv_15.toNat) = 0 → wp_c6_dropUnreached_59 L K z r A y0 y1 x2 x2 (r y0 1) P2 Q) ∧ (¬ (A (r y0 1) (rv_15.toNat) = 0) → wp_c7_setOf L K z r A x3_12 (fun rv_18 => cw_A L K 0 (r y0 0) ∧ ((0 : Int) ≤ rv_18 ∧ rv_18 < (cw_n K (r y0 0) : Int)) ∧ wp_c7_moveOf L K z r A x3_12 (fun rv_20 => hz_rI (A (r y0 0) (rv_18.toNat)) ∧ hz_rI rv_20 ∧ ((¬ A (r y0 0) (rv_18.toNat) = rv_20 → wp_c6_dropUnreached_59 L K z r A y0 y1 x2 x2 (r y0 1) P2 Q) ∧ (A (r y0 0) (rv_18.toNat) = rv_20 → wp_c6_dropUnreached_55 L K z r A y0 y1 x2 x2 (r y0 1) P2 Q))))))))))) → P2 A x2) → P2 A x2
noncomputable def wp_c6_dropUnreached (L : List Nat) (K : Nat → cw_K) (z : Nat → Nat → Int) (r : Nat → Nat → Nat) (A : Nat → Nat → Int) (y0 : Nat) (y1 : Nat) (Q : (Nat → Nat → Int) → Prop) : Prop := wp_c6_dropUnreached_2 L K z r A y0 y1 0  Q
set_option maxHeartbeats 4000000 in
set_option maxRecDepth 100000 in
theorem k_c6_dropUnreached (l : Launch) (D : va_G) (sz : Nat) (C : Nat → ClassId) (L : List Nat) (K : Nat → cw_K) (z : Nat → Nat → Int) (r : Nat → Nat → Nat) (A : Nat → Nat → Int) (y0 : Nat) (y1 : Nat) (Q : (Nat → Nat → Int) → Prop) (hw : wp_c6_dropUnreached L K z r A y0 y1 Q) : Met l yX6_dropUnreached wsX6_dropUnreached ({ frames := 1, cells := 0, slots := 0, locals := 20 } : Room) (va_Pc [.ref y0, .ref y1] (hm_P D (cw_w C L K z r A) (cw_t C) sz)) (va_Qv (S := Int × (Nat → Nat → Int) × (Nat → Nat → Nat) × (Nat → Nat → Int)) (fun u => Q u.2.2.2) (fun u t => hm_B D (va_A (cw_w C L K z r A) sz) (cw_w C L K z r u.2.2.2) (cw_t C) t) (va_A (cw_w C L K z r A) sz)) 0 0 (va_A (cw_w C L K z r A) sz) := by
  refine Met.ofW (cc := cX6_dropUnreached) (maxL := 4) (ret := none) (by decide) rfl ?_
  intro p e s m args below meth c s₁ B hml hv
  obtain ⟨rfl, hsz, hP, hK, hD0, hE⟩ := hv
  have hx := B.exec
  have hb := B.bytes
  have hr := B.returns
  have hts := atoms_spec (ws := wsX6_dropUnreached) B.pre
  have hown : s.vm.findClass RX6 = some m.cls := findClass_of_methodNamed B.named
  have hlocks := B.notSynchronized
  have hin6 : ∀ w ∈ u_ws RX6 TX6 5, w ∈ wsX6_dropUnreached := fun w h => List.mem_cons_of_mem _ (List.mem_append_right _ (h))
  have hin7 : ∀ w ∈ u_ws RX7 TX7 8, w ∈ wsX6_dropUnreached := fun w h => List.mem_cons_of_mem _ (List.mem_append_left _ (List.mem_append_right _ (h)))
  subst hsz
  have hD := hD0.self (sz := s.heap.size)
  generalize hAe : va_A (cw_w C L K z r A) s.heap.size = Ad at hD ⊢
  have hA : ∀ q : Nat, s.heap.size ≤ q → Ad q := fun q h => by rw [← hAe]; exact Or.inr h
  have hS : va_S Ad s.heap s.heap [] := va_S.rf
  have hl := lv_entry ([.ref y0, .ref y1]) (n := 4) (Nat.le_of_ble_eq_true rfl)
  rw [lg_entry_eq]
  generalize (lg_sl ([.ref y0, .ref y1]) ++ List.replicate (4 - (lg_sl ([.ref y0, .ref y1])).length) Slot.unset).toArray = ls at hl ⊢
  have hl : lv_has ls 4 [(0, .ref y0), (1, .ref y1)] := hl
  refine mw_Q (fun QQ hQQ => ?_)
  have hP0 := hP; have hD0 := hD; have hS0 := hS; have hl0 := hl; have hw0 := hw
  clear hP hD hS hl hw
  have L2 : ∀ (A : Nat → Nat → Int) (x2 : Int), wp_c6_dropUnreached_2 L K z r A y0 y1 x2  Q → ∀ (H : Heap) (locs : List Loc) (ls : Array Slot), va_P D vwCl (cw_w C L K z r A) H → va_D Ad (cw_w C L K z r A) → va_S Ad s.heap H locs → lv_has ls 4 [(0, .ref y0), (1, .ref y1), (2, .int (hz_i x2))] → W p l e (headSpec wsX6_dropUnreached ({ frames := 1, cells := 0, slots := 0, locals := 20 } : Room)).room s m (List.toArray [.ref y0, .ref y1]) below meth c H locs 0 0 QQ (F0 m 2 ls []) := by
    intro A x2 hw
    obtain ⟨P2, hP2⟩ : ∃ P : (Nat → Nat → Int) → Int → Prop, ∀ (A : Nat → Nat → Int) (x2 : Int), P A x2 ↔ (∀ (H : Heap) (locs : List Loc) (ls : Array Slot), va_P D vwCl (cw_w C L K z r A) H → va_D Ad (cw_w C L K z r A) → va_S Ad s.heap H locs → lv_has ls 4 [(0, .ref y0), (1, .ref y1), (2, .int (hz_i x2))] → W p l e (headSpec wsX6_dropUnreached ({ frames := 1, cells := 0, slots := 0, locals := 20 } : Room)).room s m (List.toArray [.ref y0, .ref y1]) below meth c H locs 0 0 QQ (F0 m 2 ls [])) := ⟨fun (A : Nat → Nat → Int) (x2 : Int) => ∀ (H : Heap) (locs : List Loc) (ls : Array Slot), va_P D vwCl (cw_w C L K z r A) H → va_D Ad (cw_w C L K z r A) → va_S Ad s.heap H locs → lv_has ls 4 [(0, .ref y0), (1, .ref y1), (2, .int (hz_i x2))] → W p l e (headSpec wsX6_dropUnreached ({ frames := 1, cells := 0, slots := 0, locals := 20 } : Room)).room s m (List.toArray [.ref y0, .ref y1]) below meth c H locs 0 0 QQ (F0 m 2 ls []), fun _ _ => Iff.rfl⟩
    refine (hP2 A x2).mp (hw P2 ?_)
    intro A x2 hw
    refine (hP2 A x2).mpr ?_
    intro H locs ls hP hD hS hl
    have L77 : ∀ (A : Nat → Nat → Int) (x2 : Int), wp_c6_dropUnreached_77 L K z r A y0 y1 x2 P2 Q → ∀ (H : Heap) (locs : List Loc) (ls : Array Slot), va_P D vwCl (cw_w C L K z r A) H → va_D Ad (cw_w C L K z r A) → va_S Ad s.heap H locs → lv_has ls 4 [(0, .ref y0), (1, .ref y1), (2, .int (hz_i x2))] → W p l e (headSpec wsX6_dropUnreached ({ frames := 1, cells := 0, slots := 0, locals := 20 } : Room)).room s m (List.toArray [.ref y0, .ref y1]) below meth c H locs 0 0 QQ (F0 m 77 ls []) := by
      intro A x2 hw H locs ls hP hD hS hl
      obtain ⟨x2_1, hx2_1⟩ : ∃ y : Int, y = x2 + 1 := ⟨_, rfl⟩
      have hw := hw x2_1 hx2_1
      refine lv_iinc (v := hz_i x2_1) (lv' := [(2, .int (hz_i x2_1)), (0, .ref y0), (1, .ref y1)]) hx hb dX6_dropUnreached_77 hl (k := 2) rfl (by rw [hx2_1]; exact hz_i_add _ _) (by decide) rfl (fun ls hl => ?_)
      refine lv_goto (tgt := 2) hx hb dX6_dropUnreached_80 (by decide) ?_
      exact (hP2 A x2_1).mp hw H locs ls hP hD hS (lv_sub hl [1, 2, 0] rfl)
    have L60 : ∀ (A : Nat → Nat → Int) (x2 : Int) (t0 : Int) (t1 : Int) (t2 : Nat), wp_c6_dropUnreached_60 L K z r A y0 y1 x2 t0 t1 t2 P2 Q → ∀ (H : Heap) (locs : List Loc) (ls : Array Slot), va_P D vwCl (cw_w C L K z r A) H → va_D Ad (cw_w C L K z r A) → va_S Ad s.heap H locs → lv_has ls 4 [(0, .ref y0), (1, .ref y1), (2, .int (hz_i x2))] → W p l e (headSpec wsX6_dropUnreached ({ frames := 1, cells := 0, slots := 0, locals := 20 } : Room)).room s m (List.toArray [.ref y0, .ref y1]) below meth c H locs 0 0 QQ (F0 m 60 ls [.int (hz_i t0), .int (hz_i t1), .ref t2]) := by
      intro A x2 t0 t1 t2 hw H locs ls hP hD hS hl
      obtain ⟨hO_2, hw⟩ := hw
      obtain ⟨h9i, hw⟩ := hw
      obtain ⟨h9z, hw⟩ := hw
      refine cw_zst (v := t0) hx hb hK hP hD hS hO_2.1 hO_2.2.2 h9i hO_2.2.1 h9z dX6_dropUnreached_60 (fun H locs hP hD hS => ?_)
      obtain ⟨A_3, hA_3⟩ : ∃ y : Nat → Nat → Int, y = hz_s A t2 t1 t0 := ⟨_, rfl⟩
      rw [← hA_3] at hP hD
      have hw := hw A_3 hA_3
      refine lv_aload_n hx hb dX6_dropUnreached_61 rfl (lv_at hl 0 rfl) ?_
      obtain ⟨hO_4, hw⟩ := hw
      refine cw_get (ci := 6) (v := .ref (r y0 1)) hx hb hts hin6 hown hK hP hO_4.1 hO_4.2 rfl 1 (by decide) (hts (.fieldLink RX6 15 "HiddenMoves$Reply" "isReached" "[Z") (List.mem_cons_of_mem _ (List.mem_append_left _ (List.mem_append_left _ (List.mem_of_getElem? (i := 2) rfl))))) (fun _ h9 => h9) rfl dX6_dropUnreached_62 ?_
      refine lv_iload_n hx hb dX6_dropUnreached_65 rfl (lv_at hl 2 rfl) ?_
      obtain ⟨hO_5, hw⟩ := hw
      obtain ⟨h9i, hw⟩ := hw
      refine cw_zld hx hb hK hP hO_5.1 hO_5.2.2 h9i hO_5.2.1 dX6_dropUnreached_66 ?_
      obtain ⟨h9a, hw⟩ := hw
      refine hz_if_ne (tgt := 77) hx hb dX6_dropUnreached_67 (by decide) h9a (fun c_6 => ?_) (fun c_6 => ?_)
      · have hw := hw.1 c_6
        exact L77 A_3 x2 hw H locs ls hP hD hS (lv_sub hl [0, 1, 2] rfl)
      · have hw := hw.2 c_6
        refine lv_aload_n hx hb dX6_dropUnreached_70 rfl (lv_at hl 0 rfl) ?_
        refine cw_get (ci := 6) (v := .ref (r y0 0)) hx hb hts hin6 hown hK hP hO_4.1 hO_4.2 rfl 0 (by decide) (hts (.fieldLink RX6 9 "HiddenMoves$Reply" "moves" "[I") (List.mem_cons_of_mem _ (List.mem_append_left _ (List.mem_append_left _ (List.mem_of_getElem? (i := 3) rfl))))) (fun _ h9 => h9) rfl dX6_dropUnreached_71 ?_
        refine lv_iload_n hx hb dX6_dropUnreached_74 rfl (lv_at hl 2 rfl) ?_
        refine lv_iconst (v := hz_i 0) hx hb dX6_dropUnreached_75 (by decide +kernel) ?_
        obtain ⟨hO_7, hw⟩ := hw
        obtain ⟨h9i, hw⟩ := hw
        refine cw_ist (v := 0) hx hb hK hP hD hS hO_7.1 hO_7.2.2 h9i hO_7.2.1 dX6_dropUnreached_76 (fun H locs hP hD hS => ?_)
        obtain ⟨A_8, hA_8⟩ : ∃ y : Nat → Nat → Int, y = hz_s A_3 (r y0 0) x2 0 := ⟨_, rfl⟩
        rw [← hA_8] at hP hD
        have hw := hw A_8 hA_8
        exact L77 A_8 x2 hw H locs ls hP hD hS (lv_sub hl [0, 1, 2] rfl)
    have L59 : ∀ (A : Nat → Nat → Int) (x2 : Int) (t0 : Int) (t1 : Nat), wp_c6_dropUnreached_59 L K z r A y0 y1 x2 t0 t1 P2 Q → ∀ (H : Heap) (locs : List Loc) (ls : Array Slot), va_P D vwCl (cw_w C L K z r A) H → va_D Ad (cw_w C L K z r A) → va_S Ad s.heap H locs → lv_has ls 4 [(0, .ref y0), (1, .ref y1), (2, .int (hz_i x2))] → W p l e (headSpec wsX6_dropUnreached ({ frames := 1, cells := 0, slots := 0, locals := 20 } : Room)).room s m (List.toArray [.ref y0, .ref y1]) below meth c H locs 0 0 QQ (F0 m 59 ls [.int (hz_i t0), .ref t1]) := by
      intro A x2 t0 t1 hw H locs ls hP hD hS hl
      refine lv_iconst (v := hz_i 0) hx hb dX6_dropUnreached_59 (by decide +kernel) ?_
      exact L60 A x2 0 t0 t1 hw H locs ls hP hD hS (lv_sub hl [0, 1, 2] rfl)
    have L55 : ∀ (A : Nat → Nat → Int) (x2 : Int) (t0 : Int) (t1 : Nat), wp_c6_dropUnreached_55 L K z r A y0 y1 x2 t0 t1 P2 Q → ∀ (H : Heap) (locs : List Loc) (ls : Array Slot), va_P D vwCl (cw_w C L K z r A) H → va_D Ad (cw_w C L K z r A) → va_S Ad s.heap H locs → lv_has ls 4 [(0, .ref y0), (1, .ref y1), (2, .int (hz_i x2))] → W p l e (headSpec wsX6_dropUnreached ({ frames := 1, cells := 0, slots := 0, locals := 20 } : Room)).room s m (List.toArray [.ref y0, .ref y1]) below meth c H locs 0 0 QQ (F0 m 55 ls [.int (hz_i t0), .ref t1]) := by
      intro A x2 t0 t1 hw H locs ls hP hD hS hl
      refine lv_iconst (v := hz_i 1) hx hb dX6_dropUnreached_55 (by decide +kernel) ?_
      refine lv_goto (tgt := 60) hx hb dX6_dropUnreached_56 (by decide) ?_
      exact L60 A x2 1 t0 t1 hw H locs ls hP hD hS (lv_sub hl [0, 1, 2] rfl)
    refine lv_iload_n hx hb dX6_dropUnreached_2 rfl (lv_at hl 2 rfl) ?_
    refine lv_aload_n hx hb dX6_dropUnreached_3 rfl (lv_at hl 1 rfl) ?_
    obtain ⟨hO_9, hw⟩ := hw
    refine cw_get (ci := 7) (v := .int (hz_i (z y1 0))) hx hb hts hin7 hown hK hP hO_9.1 hO_9.2 rfl 0 (by decide) (hts (.fieldLink RX6 68 "HiddenMoves$Side" "sets" "I") (List.mem_cons_of_mem _ (List.mem_append_left _ (List.mem_append_left _ (List.mem_of_getElem? (i := 0) rfl))))) (fun _ h9 => h9) rfl dX6_dropUnreached_4 ?_
    obtain ⟨h9a, hw⟩ := hw
    obtain ⟨h9b, hw⟩ := hw
    refine hz_icmp_ge (tgt := 83) hx hb dX6_dropUnreached_7 (by decide) h9a h9b (fun c_10 => ?_) (fun c_10 => ?_)
    · have hw := hw.1 c_10
      subst hQQ
      subst hAe
      exact W.vret hx hb hr (fun t ht hW => ⟨⟨(0, z, r, A), rfl, hw, by rw [ht]; exact hP, va_K.moved hW.alike hK, hD⟩, hS.F ht⟩) hS.2.2 dX6_dropUnreached_83
    · have hw := hw.2 c_10
      refine lv_aload_n hx hb dX6_dropUnreached_10 rfl (lv_at hl 1 rfl) ?_
      refine cw_get (ci := 7) (v := .ref (r y1 4)) hx hb hts hin7 hown hK hP hO_9.1 hO_9.2 rfl 4 (by decide) (hts (.fieldLink RX6 98 "HiddenMoves$Side" "deeds" "[I") (List.mem_cons_of_mem _ (List.mem_append_left _ (List.mem_append_left _ (List.mem_of_getElem? (i := 1) rfl))))) (fun _ h9 => h9) rfl dX6_dropUnreached_11 ?_
      refine lv_iload_n hx hb dX6_dropUnreached_14 rfl (lv_at hl 2 rfl) ?_
      obtain ⟨hO_11, hw⟩ := hw
      obtain ⟨h9i, hw⟩ := hw
      refine cw_ild hx hb hK hP hO_11.1 hO_11.2.2 h9i hO_11.2.1 dX6_dropUnreached_15 ?_
      refine hz_topi (fun x3_12 hx3_12 => ?_)
      have hw := hw x3_12 hx3_12
      refine lv_istore_n (lv' := [(3, .int (hz_i x3_12)), (0, .ref y0), (1, .ref y1), (2, .int (hz_i x2))]) hx hb dX6_dropUnreached_16 rfl hl (by decide) rfl (fun ls hl => ?_)
      refine lv_aload_n hx hb dX6_dropUnreached_17 rfl (lv_at hl 1 rfl) ?_
      obtain ⟨hO_13, hw⟩ := hw
      refine cw_get (ci := 6) (v := .ref (r y0 1)) hx hb hts hin6 hown hK hP hO_13.1 hO_13.2 rfl 1 (by decide) (hts (.fieldLink RX6 15 "HiddenMoves$Reply" "isReached" "[Z") (List.mem_cons_of_mem _ (List.mem_append_left _ (List.mem_append_left _ (List.mem_of_getElem? (i := 2) rfl))))) (fun _ h9 => h9) rfl dX6_dropUnreached_18 ?_
      refine lv_iload_n hx hb dX6_dropUnreached_21 rfl (lv_at hl 3 rfl) ?_
      refine lv_iload_n hx hb dX6_dropUnreached_22 rfl (lv_at hl 0 rfl) ?_
      refine lv_iconst (v := hz_i (-1)) hx hb dX6_dropUnreached_23 (by decide +kernel) ?_
      obtain ⟨h9a, hw⟩ := hw
      refine hz_icmp_eq (tgt := 55) hx hb dX6_dropUnreached_24 (by decide) h9a ⟨by decide, by decide⟩ (fun c_14 => ?_) (fun c_14 => ?_)
      · have hw := hw.1 c_14
        exact L55 A x2 x2 (r y0 1) hw H locs ls hP hD hS (lv_sub hl [1, 2, 3] rfl)
      · have hw := hw.2 c_14
        refine lv_aload_n hx hb dX6_dropUnreached_27 rfl (lv_at hl 1 rfl) ?_
        refine cw_get (ci := 6) (v := .ref (r y0 1)) hx hb hts hin6 hown hK hP hO_13.1 hO_13.2 rfl 1 (by decide) (hts (.fieldLink RX6 15 "HiddenMoves$Reply" "isReached" "[Z") (List.mem_cons_of_mem _ (List.mem_append_left _ (List.mem_append_left _ (List.mem_of_getElem? (i := 2) rfl))))) (fun _ h9 => h9) rfl dX6_dropUnreached_28 ?_
        refine lv_iload_n hx hb dX6_dropUnreached_31 rfl (lv_at hl 0 rfl) ?_
        have hFc := cw_free hD hS hA
        refine va_calli (va_runS (As := [.int (hz_i x3_12)]) (rest := [.ref (r y0 1), .int (hz_i x2), .ref (r y0 1)]) ⟨hx, hb, hml, hown, hts⟩ (k_c7_setOf l D _ C L K z r A x3_12 _ hw) (va_cwS 1 hts gX6_dropUnreached_X7_setOf rfl rfl rfl (by decide +kernel) ⟨Nat.le_of_ble_eq_true rfl, Nat.le_of_ble_eq_true rfl⟩) ⟨hm_blind, hm_pre hP hK hD hE⟩ rfl rfl hl.1 rfl (lv_room (Nat.le_of_ble_eq_true rfl)) dX6_dropUnreached_32 ⟨Nat.le_of_ble_eq_true rfl, Nat.le_of_ble_eq_true rfl⟩) hS (fun q _ h => hFc q h) hFc (fun rv u t H1 locs ht hvm hw hB hz1 hk1 hS => ?_)
        obtain ⟨rv_15, _, _, _⟩ := u
        obtain ⟨hP, hK1, hD1⟩ := hB
        rw [ht] at hP
        obtain ⟨hrv, hw⟩ := hw
        subst hrv
        have hD := hD1.weaken (fun k q _ h => hFc q.1 h)
        have hP : va_P D vwCl (cw_w C L K z r A) H1 := hP
        have hD : va_D Ad (cw_w C L K z r A) := hD
        generalize H1 = H at hP hS ⊢
        refine W.eq (g2 := F0 m 35 ls [.int (hz_i rv_15), .ref (r y0 1), .int (hz_i x2), .ref (r y0 1)]) rfl ?_
        obtain ⟨hO_16, hw⟩ := hw
        obtain ⟨h9i, hw⟩ := hw
        refine cw_zld hx hb hK hP hO_16.1 hO_16.2.2 h9i hO_16.2.1 dX6_dropUnreached_35 ?_
        obtain ⟨h9a, hw⟩ := hw
        refine hz_if_eq (tgt := 59) hx hb dX6_dropUnreached_36 (by decide) h9a (fun c_17 => ?_) (fun c_17 => ?_)
        · have hw := hw.1 c_17
          exact L59 A x2 x2 (r y0 1) hw H locs ls hP hD hS (lv_sub hl [1, 2, 3] rfl)
        · have hw := hw.2 c_17
          refine lv_aload_n hx hb dX6_dropUnreached_39 rfl (lv_at hl 1 rfl) ?_
          refine cw_get (ci := 6) (v := .ref (r y0 0)) hx hb hts hin6 hown hK hP hO_13.1 hO_13.2 rfl 0 (by decide) (hts (.fieldLink RX6 9 "HiddenMoves$Reply" "moves" "[I") (List.mem_cons_of_mem _ (List.mem_append_left _ (List.mem_append_left _ (List.mem_of_getElem? (i := 3) rfl))))) (fun _ h9 => h9) rfl dX6_dropUnreached_40 ?_
          refine lv_iload_n hx hb dX6_dropUnreached_43 rfl (lv_at hl 0 rfl) ?_
          have hFc := cw_free hD hS hA
          refine va_calli (va_runS (As := [.int (hz_i x3_12)]) (rest := [.ref (r y0 0), .int (hz_i x2), .ref (r y0 1)]) ⟨hx, hb, hml, hown, hts⟩ (k_c7_setOf l D _ C L K z r A x3_12 _ hw) (va_cwS 1 hts gX6_dropUnreached_X7_setOf rfl rfl rfl (by decide +kernel) ⟨Nat.le_of_ble_eq_true rfl, Nat.le_of_ble_eq_true rfl⟩) ⟨hm_blind, hm_pre hP hK hD hE⟩ rfl rfl hl.1 rfl (lv_room (Nat.le_of_ble_eq_true rfl)) dX6_dropUnreached_44 ⟨Nat.le_of_ble_eq_true rfl, Nat.le_of_ble_eq_true rfl⟩) hS (fun q _ h => hFc q h) hFc (fun rv u t H1 locs ht hvm hw hB hz1 hk1 hS => ?_)
          obtain ⟨rv_18, _, _, _⟩ := u
          obtain ⟨hP, hK1, hD1⟩ := hB
          rw [ht] at hP
          obtain ⟨hrv, hw⟩ := hw
          subst hrv
          have hD := hD1.weaken (fun k q _ h => hFc q.1 h)
          have hP : va_P D vwCl (cw_w C L K z r A) H1 := hP
          have hD : va_D Ad (cw_w C L K z r A) := hD
          generalize H1 = H at hP hS ⊢
          refine W.eq (g2 := F0 m 47 ls [.int (hz_i rv_18), .ref (r y0 0), .int (hz_i x2), .ref (r y0 1)]) rfl ?_
          obtain ⟨hO_19, hw⟩ := hw
          obtain ⟨h9i, hw⟩ := hw
          refine cw_ild hx hb hK hP hO_19.1 hO_19.2.2 h9i hO_19.2.1 dX6_dropUnreached_47 ?_
          refine lv_iload_n hx hb dX6_dropUnreached_48 rfl (lv_at hl 0 rfl) ?_
          have hFc := cw_free hD hS hA
          refine va_calli (va_runS (As := [.int (hz_i x3_12)]) (rest := [.int (hz_i (A (r y0 0) (rv_18.toNat))), .int (hz_i x2), .ref (r y0 1)]) ⟨hx, hb, hml, hown, hts⟩ (k_c7_moveOf l D _ C L K z r A x3_12 _ hw) (va_cwS 1 hts gX6_dropUnreached_X7_moveOf rfl rfl rfl (by decide +kernel) ⟨Nat.le_of_ble_eq_true rfl, Nat.le_of_ble_eq_true rfl⟩) ⟨hm_blind, hm_pre hP hK hD hE⟩ rfl rfl hl.1 rfl (lv_room (Nat.le_of_ble_eq_true rfl)) dX6_dropUnreached_49 ⟨Nat.le_of_ble_eq_true rfl, Nat.le_of_ble_eq_true rfl⟩) hS (fun q _ h => hFc q h) hFc (fun rv u t H1 locs ht hvm hw hB hz1 hk1 hS => ?_)
          obtain ⟨rv_20, _, _, _⟩ := u
          obtain ⟨hP, hK1, hD1⟩ := hB
          rw [ht] at hP
          obtain ⟨hrv, hw⟩ := hw
          subst hrv
          have hD := hD1.weaken (fun k q _ h => hFc q.1 h)
          have hP : va_P D vwCl (cw_w C L K z r A) H1 := hP
          have hD : va_D Ad (cw_w C L K z r A) := hD
          generalize H1 = H at hP hS ⊢
          refine W.eq (g2 := F0 m 52 ls [.int (hz_i rv_20), .int (hz_i (A (r y0 0) (rv_18.toNat))), .int (hz_i x2), .ref (r y0 1)]) rfl ?_
          obtain ⟨h9a, hw⟩ := hw
          obtain ⟨h9b, hw⟩ := hw
          refine hz_icmp_ne (tgt := 59) hx hb dX6_dropUnreached_52 (by decide) h9a h9b (fun c_21 => ?_) (fun c_21 => ?_)
          · have hw := hw.1 c_21
            exact L59 A x2 x2 (r y0 1) hw H locs ls hP hD hS (lv_sub hl [1, 2, 3] rfl)
          · have hw := hw.2 c_21
            exact L55 A x2 x2 (r y0 1) hw H locs ls hP hD hS (lv_sub hl [1, 2, 3] rfl)
  have hP := hP0; have hD := hD0; have hS := hS0; have hl := hl0; have hw := hw0
  obtain ⟨H, hH⟩ : ∃ H : Heap, H = s.heap := ⟨_, rfl⟩
  obtain ⟨locs, hlocs⟩ : ∃ L : List Loc, L = [] := ⟨_, rfl⟩
  rw [← hH] at hP
  have hS : va_S Ad s.heap H locs := by rw [hH, hlocs]; exact hS
  refine mw_HL hH hlocs ?_
  refine lv_iconst (v := hz_i 0) hx hb dX6_dropUnreached_0 (by decide +kernel) ?_
  refine lv_istore_n (lv' := [(2, .int (hz_i 0)), (0, .ref y0), (1, .ref y1)]) hx hb dX6_dropUnreached_1 rfl hl (by decide) rfl (fun ls hl => ?_)
  exact L2 A 0 hw H locs ls hP hD hS (lv_sub hl [1, 2, 0] rfl)

noncomputable def wp_c6_work_49 (L : List Nat) (K : Nat → cw_K) (z : Nat → Nat → Int) (r : Nat → Nat → Nat) (A : Nat → Nat → Int) (y0 : Nat) (y2 : Int) (x4 : Nat) (x5 : Int) (t0 : Int) (t1 : Int) (t2 : Nat) (t3 : Nat) (t4 : Int) (t5 : Nat) (P24 : (Nat → Nat → Int) → (Nat → Nat → Int) → Int → Prop) (Q : (Nat → Nat → Int) → (Nat → Nat → Int) → Prop) : Prop := cw_O L K 6 t3 ∧ wp_c6_bestMove L K z r A t3 t2 t1 t0 (fun rv_1 => cw_A L K 0 t5 ∧ ((0 : Int) ≤ t4 ∧ t4 < (cw_n K t5 : Int)) ∧ ∀ A_4 : Nat → Nat → Int, A_4 = hz_s A t5 t4 rv_1 → cw_O L K 6 y0 ∧ cw_O L K 7 x4 ∧ cw_A L K 0 (r x4 7) ∧ ((0 : Int) ≤ x5 ∧ x5 < (cw_n K (r x4 7) : Int)) ∧ cw_G L K 4 (r y0 2) ∧ ((0 : Int) ≤ A_4 (r x4 7) (x5.toNat) ∧ A_4 (r x4 7) (x5.toNat) < (cw_n K (r y0 2) : Int)) ∧ cw_A L K 0 (r x4 6) ∧ ((0 : Int) ≤ x5 ∧ x5 < (cw_n K (r x4 6) : Int)) ∧ cw_A L K 0 (r y0 0) ∧ ((0 : Int) ≤ x5 ∧ x5 < (cw_n K (r y0 0) : Int)) ∧ ((0 : Int) ≤ (A_4 (r x4 6) (x5.toNat)) + (A_4 (r y0 0) (x5.toNat)) ∧ (A_4 (r x4 6) (x5.toNat)) + (A_4 (r y0 0) (x5.toNat)) < (cw_n K (r y0 2) : Int)) ∧ cw_O L K 0 (cw_g K (r y0 2) ((A_4 (r x4 7) (x5.toNat)).toNat)) ∧ wp_c0_plus L K z r A_4 (cw_g K (r y0 2) ((A_4 (r x4 7) (x5.toNat)).toNat)) (cw_g K (r y0 2) (((A_4 (r x4 6) (x5.toNat)) + (A_4 (r y0 0) (x5.toNat))).toNat)) (fun z_12 A_13 => ∀ x5_15 : Int, x5_15 = x5 + (-1) → P24 z_12 A_13 x5_15))
noncomputable def wp_c6_work_24 (L : List Nat) (K : Nat → cw_K) (z : Nat → Nat → Int) (r : Nat → Nat → Nat) (A : Nat → Nat → Int) (y0 : Nat) (y2 : Int) (x4 : Nat) (x5 : Int) (Q : (Nat → Nat → Int) → (Nat → Nat → Int) → Prop) : Prop := ∀ P24 : (Nat → Nat → Int) → (Nat → Nat → Int) → Int → Prop, (∀ (z : Nat → Nat → Int) (A : Nat → Nat → Int) (x5 : Int), hz_rI x5 ∧ ((x5 < 0 → cw_O L K 6 y0 ∧ wp_c6_dropUnreached L K z r A y0 x4 (fun A_18 => Q z A_18)) ∧ (¬ (x5 < 0) → cw_O L K 6 y0 ∧ hz_rI y2 ∧ ((¬ y2 = 0 → wp_c6_work_49 L K z r A y0 y2 x4 x5 (-1) x5 x4 y0 x5 (r y0 0) P24 Q) ∧ (y2 = 0 → wp_c6_work_49 L K z r A y0 y2 x4 x5 1 x5 x4 y0 x5 (r y0 0) P24 Q)))) → P24 z A x5) → P24 z A x5
noncomputable def wp_c6_work (L : List Nat) (K : Nat → cw_K) (z : Nat → Nat → Int) (r : Nat → Nat → Nat) (A : Nat → Nat → Int) (y0 : Nat) (y1 : Nat) (y2 : Int) (y3 : Nat) (Q : (Nat → Nat → Int) → (Nat → Nat → Int) → Prop) : Prop := cw_O L K 6 y0 ∧ wp_c6_gather L K z r A y0 y1 y2 y3 (fun z_23 A_24 => cw_O L K 2 y1 ∧ cw_G L K 7 (r y1 1) ∧ ((0 : Int) ≤ y2 ∧ y2 < (cw_n K (r y1 1) : Int)) ∧ cw_O L K 7 (cw_g K (r y1 1) (y2.toNat)) ∧ ∀ x5_29 : Int, x5_29 = (z_23 (cw_g K (r y1 1) (y2.toNat)) 0) - 1 → wp_c6_work_24 L K z_23 r A_24 y0 y2 (cw_g K (r y1 1) (y2.toNat)) x5_29  Q)
set_option maxHeartbeats 4000000 in
set_option maxRecDepth 100000 in
theorem k_c6_work (l : Launch) (D : va_G) (sz : Nat) (C : Nat → ClassId) (L : List Nat) (K : Nat → cw_K) (z : Nat → Nat → Int) (r : Nat → Nat → Nat) (A : Nat → Nat → Int) (y0 : Nat) (y1 : Nat) (y2 : Int) (y3 : Nat) (Q : (Nat → Nat → Int) → (Nat → Nat → Int) → Prop) (hw : wp_c6_work L K z r A y0 y1 y2 y3 Q) : Met l yX6_work wsX6_work ({ frames := 4, cells := 0, slots := 0, locals := 101 } : Room) (va_Pc [.ref y0, .ref y1, .int (hz_i y2), .ref y3] (hm_P D (cw_w C L K z r A) (cw_t C) sz)) (va_Qv (S := Int × (Nat → Nat → Int) × (Nat → Nat → Nat) × (Nat → Nat → Int)) (fun u => Q u.2.1 u.2.2.2) (fun u t => hm_B D (va_A (cw_w C L K z r A) sz) (cw_w C L K u.2.1 r u.2.2.2) (cw_t C) t) (va_A (cw_w C L K z r A) sz)) 0 0 (va_A (cw_w C L K z r A) sz) := by
  refine Met.ofW (cc := cX6_work) (maxL := 6) (ret := none) (by decide) rfl ?_
  intro p e s m args below meth c s₁ B hml hv
  obtain ⟨rfl, hsz, hP, hK, hD0, hE⟩ := hv
  have hx := B.exec
  have hb := B.bytes
  have hr := B.returns
  have hts := atoms_spec (ws := wsX6_work) B.pre
  have hown : s.vm.findClass RX6 = some m.cls := findClass_of_methodNamed B.named
  have hlocks := B.notSynchronized
  have hin2 : ∀ w ∈ u_ws RX2 TX2 4, w ∈ wsX6_work := fun w h => List.mem_cons_of_mem _ (List.mem_append_left _ (List.mem_append_left _ (List.mem_append_left _ (List.mem_append_left _ (List.mem_append_right _ (h))))))
  have hin6 : ∀ w ∈ u_ws RX6 TX6 5, w ∈ wsX6_work := fun w h => List.mem_cons_of_mem _ (List.mem_append_left _ (List.mem_append_left _ (List.mem_append_right _ (h))))
  have hin7 : ∀ w ∈ u_ws RX7 TX7 8, w ∈ wsX6_work := fun w h => List.mem_cons_of_mem _ (List.mem_append_left _ (List.mem_append_left _ (List.mem_append_left _ (List.mem_append_right _ (h)))))
  subst hsz
  have hD := hD0.self (sz := s.heap.size)
  generalize hAe : va_A (cw_w C L K z r A) s.heap.size = Ad at hD ⊢
  have hA : ∀ q : Nat, s.heap.size ≤ q → Ad q := fun q h => by rw [← hAe]; exact Or.inr h
  have hS : va_S Ad s.heap s.heap [] := va_S.rf
  have hl := lv_entry ([.ref y0, .ref y1, .int (hz_i y2), .ref y3]) (n := 6) (Nat.le_of_ble_eq_true rfl)
  rw [lg_entry_eq]
  generalize (lg_sl ([.ref y0, .ref y1, .int (hz_i y2), .ref y3]) ++ List.replicate (6 - (lg_sl ([.ref y0, .ref y1, .int (hz_i y2), .ref y3])).length) Slot.unset).toArray = ls at hl ⊢
  have hl : lv_has ls 6 [(0, .ref y0), (1, .ref y1), (2, .int (hz_i y2)), (3, .ref y3)] := hl
  refine mw_Q (fun QQ hQQ => ?_)
  have hP0 := hP; have hD0 := hD; have hS0 := hS; have hl0 := hl; have hw0 := hw
  clear hP hD hS hl hw
  have L24 : ∀ (z : Nat → Nat → Int) (A : Nat → Nat → Int) (x4 : Nat) (x5 : Int), wp_c6_work_24 L K z r A y0 y2 x4 x5  Q → ∀ (H : Heap) (locs : List Loc) (ls : Array Slot), va_P D vwCl (cw_w C L K z r A) H → va_D Ad (cw_w C L K z r A) → va_S Ad s.heap H locs → lv_has ls 6 [(0, .ref y0), (2, .int (hz_i y2)), (4, .ref x4), (5, .int (hz_i x5))] → W p l e (headSpec wsX6_work ({ frames := 4, cells := 0, slots := 0, locals := 101 } : Room)).room s m (List.toArray [.ref y0, .ref y1, .int (hz_i y2), .ref y3]) below meth c H locs 0 0 QQ (F0 m 24 ls []) := by
    intro z A x4 x5 hw
    obtain ⟨P24, hP24⟩ : ∃ P : (Nat → Nat → Int) → (Nat → Nat → Int) → Int → Prop, ∀ (z : Nat → Nat → Int) (A : Nat → Nat → Int) (x5 : Int), P z A x5 ↔ (∀ (H : Heap) (locs : List Loc) (ls : Array Slot), va_P D vwCl (cw_w C L K z r A) H → va_D Ad (cw_w C L K z r A) → va_S Ad s.heap H locs → lv_has ls 6 [(0, .ref y0), (2, .int (hz_i y2)), (4, .ref x4), (5, .int (hz_i x5))] → W p l e (headSpec wsX6_work ({ frames := 4, cells := 0, slots := 0, locals := 101 } : Room)).room s m (List.toArray [.ref y0, .ref y1, .int (hz_i y2), .ref y3]) below meth c H locs 0 0 QQ (F0 m 24 ls [])) := ⟨fun (z : Nat → Nat → Int) (A : Nat → Nat → Int) (x5 : Int) => ∀ (H : Heap) (locs : List Loc) (ls : Array Slot), va_P D vwCl (cw_w C L K z r A) H → va_D Ad (cw_w C L K z r A) → va_S Ad s.heap H locs → lv_has ls 6 [(0, .ref y0), (2, .int (hz_i y2)), (4, .ref x4), (5, .int (hz_i x5))] → W p l e (headSpec wsX6_work ({ frames := 4, cells := 0, slots := 0, locals := 101 } : Room)).room s m (List.toArray [.ref y0, .ref y1, .int (hz_i y2), .ref y3]) below meth c H locs 0 0 QQ (F0 m 24 ls []), fun _ _ _ => Iff.rfl⟩
    refine (hP24 z A x5).mp (hw P24 ?_)
    intro z A x5 hw
    refine (hP24 z A x5).mpr ?_
    intro H locs ls hP hD hS hl
    have L49 : ∀ (z : Nat → Nat → Int) (A : Nat → Nat → Int) (x5 : Int) (t0 : Int) (t1 : Int) (t2 : Nat) (t3 : Nat) (t4 : Int) (t5 : Nat), wp_c6_work_49 L K z r A y0 y2 x4 x5 t0 t1 t2 t3 t4 t5 P24 Q → ∀ (H : Heap) (locs : List Loc) (ls : Array Slot), va_P D vwCl (cw_w C L K z r A) H → va_D Ad (cw_w C L K z r A) → va_S Ad s.heap H locs → lv_has ls 6 [(0, .ref y0), (2, .int (hz_i y2)), (4, .ref x4), (5, .int (hz_i x5))] → W p l e (headSpec wsX6_work ({ frames := 4, cells := 0, slots := 0, locals := 101 } : Room)).room s m (List.toArray [.ref y0, .ref y1, .int (hz_i y2), .ref y3]) below meth c H locs 0 0 QQ (F0 m 49 ls [.int (hz_i t0), .int (hz_i t1), .ref t2, .ref t3, .int (hz_i t4), .ref t5]) := by
      intro z A x5 t0 t1 t2 t3 t4 t5 hw H locs ls hP hD hS hl
      obtain ⟨hO_2, hw⟩ := hw
      have hFc := cw_free hD hS hA
      obtain ⟨q9, hq9⟩ := cw_at (C := C) (z := z) (r := r) (A := A) hO_2.1 hO_2.2
      refine va_calli (va_runV (As := [.ref t2, .int (hz_i t1), .int (hz_i t0)]) (rest := [.int (hz_i t4), .ref t5]) ⟨hx, hb, hml, hown, hts⟩ (k_c6_bestMove l D _ C L K z r A t3 t2 t1 t0 _ hw) (cwV 3 hts gX6_work_X6_bestMove rfl rfl rfl (by decide +kernel) ⟨Nat.le_of_ble_eq_true rfl, Nat.le_of_ble_eq_true rfl⟩) ⟨hm_blind, va_recv hK hP (ci := 6) (q0 := q9) rfl hq9, hm_pre hP hK hD hE⟩ rfl rfl hl.1 rfl (lv_room (Nat.le_of_ble_eq_true rfl)) dX6_work_49 ⟨Nat.le_of_ble_eq_true rfl, Nat.le_of_ble_eq_true rfl⟩) hS (fun q _ h => hFc q h) hFc (fun rv u t H1 locs ht hvm hw hB hz1 hk1 hS => ?_)
      obtain ⟨rv_1, _, _, _⟩ := u
      obtain ⟨hP, hK1, hD1⟩ := hB
      rw [ht] at hP
      obtain ⟨hrv, hw⟩ := hw
      subst hrv
      have hD := hD1.weaken (fun k q _ h => hFc q.1 h)
      have hP : va_P D vwCl (cw_w C L K z r A) H1 := hP
      have hD : va_D Ad (cw_w C L K z r A) := hD
      generalize H1 = H at hP hS ⊢
      refine W.eq (g2 := F0 m 52 ls [.int (hz_i rv_1), .int (hz_i t4), .ref t5]) rfl ?_
      obtain ⟨hO_3, hw⟩ := hw
      obtain ⟨h9i, hw⟩ := hw
      refine cw_ist (v := rv_1) hx hb hK hP hD hS hO_3.1 hO_3.2.2 h9i hO_3.2.1 dX6_work_52 (fun H locs hP hD hS => ?_)
      obtain ⟨A_4, hA_4⟩ : ∃ y : Nat → Nat → Int, y = hz_s A t5 t4 rv_1 := ⟨_, rfl⟩
      rw [← hA_4] at hP hD
      have hw := hw A_4 hA_4
      refine lv_aload_n hx hb dX6_work_53 rfl (lv_at hl 0 rfl) ?_
      obtain ⟨hO_5, hw⟩ := hw
      refine cw_get (ci := 6) (v := .ref (r y0 2)) hx hb hts hin6 hown hK hP hO_5.1 hO_5.2 rfl 2 (by decide) (hts (.fieldLink RX6 21 "HiddenMoves$Reply" "gains" "[LHiddenMoves$Big;") (List.mem_cons_of_mem _ (List.mem_append_left _ (List.mem_append_left _ (List.mem_append_left _ (List.mem_append_left _ (List.mem_append_left _ (List.mem_append_left _ (List.mem_of_getElem? (i := 3) rfl))))))))) (fun _ h9 => h9) rfl dX6_work_54 ?_
      refine lv_aload hx hb dX6_work_57 (lv_at hl 2 rfl) ?_
      obtain ⟨hO_6, hw⟩ := hw
      refine cw_get (ci := 7) (v := .ref (r x4 7)) hx hb hts hin7 hown hK hP hO_6.1 hO_6.2 rfl 7 (by decide) (hts (.fieldLink RX6 75 "HiddenMoves$Side" "parentLines" "[I") (List.mem_cons_of_mem _ (List.mem_append_left _ (List.mem_append_left _ (List.mem_append_left _ (List.mem_append_left _ (List.mem_append_left _ (List.mem_append_left _ (List.mem_of_getElem? (i := 4) rfl))))))))) (fun _ h9 => h9) rfl dX6_work_59 ?_
      refine lv_iload hx hb dX6_work_62 (lv_at hl 3 rfl) ?_
      obtain ⟨hO_7, hw⟩ := hw
      obtain ⟨h9i, hw⟩ := hw
      refine cw_ild hx hb hK hP hO_7.1 hO_7.2.2 h9i hO_7.2.1 dX6_work_64 ?_
      obtain ⟨hO_8, hw⟩ := hw
      obtain ⟨h9i, hw⟩ := hw
      refine cw_ald hx hb hK hP hO_8.1 hO_8.2.2 rfl h9i hO_8.2.1 dX6_work_65 ?_
      refine lv_aload_n hx hb dX6_work_66 rfl (lv_at hl 0 rfl) ?_
      refine cw_get (ci := 6) (v := .ref (r y0 2)) hx hb hts hin6 hown hK hP hO_5.1 hO_5.2 rfl 2 (by decide) (hts (.fieldLink RX6 21 "HiddenMoves$Reply" "gains" "[LHiddenMoves$Big;") (List.mem_cons_of_mem _ (List.mem_append_left _ (List.mem_append_left _ (List.mem_append_left _ (List.mem_append_left _ (List.mem_append_left _ (List.mem_append_left _ (List.mem_of_getElem? (i := 3) rfl))))))))) (fun _ h9 => h9) rfl dX6_work_67 ?_
      refine lv_aload hx hb dX6_work_70 (lv_at hl 2 rfl) ?_
      refine cw_get (ci := 7) (v := .ref (r x4 6)) hx hb hts hin7 hown hK hP hO_6.1 hO_6.2 rfl 6 (by decide) (hts (.fieldLink RX6 78 "HiddenMoves$Side" "firstLines" "[I") (List.mem_cons_of_mem _ (List.mem_append_left _ (List.mem_append_left _ (List.mem_append_left _ (List.mem_append_left _ (List.mem_append_left _ (List.mem_append_left _ (List.mem_of_getElem? (i := 5) rfl))))))))) (fun _ h9 => h9) rfl dX6_work_72 ?_
      refine lv_iload hx hb dX6_work_75 (lv_at hl 3 rfl) ?_
      obtain ⟨hO_9, hw⟩ := hw
      obtain ⟨h9i, hw⟩ := hw
      refine cw_ild hx hb hK hP hO_9.1 hO_9.2.2 h9i hO_9.2.1 dX6_work_77 ?_
      refine lv_aload_n hx hb dX6_work_78 rfl (lv_at hl 0 rfl) ?_
      refine cw_get (ci := 6) (v := .ref (r y0 0)) hx hb hts hin6 hown hK hP hO_5.1 hO_5.2 rfl 0 (by decide) (hts (.fieldLink RX6 9 "HiddenMoves$Reply" "moves" "[I") (List.mem_cons_of_mem _ (List.mem_append_left _ (List.mem_append_left _ (List.mem_append_left _ (List.mem_append_left _ (List.mem_append_left _ (List.mem_append_left _ (List.mem_of_getElem? (i := 2) rfl))))))))) (fun _ h9 => h9) rfl dX6_work_79 ?_
      refine lv_iload hx hb dX6_work_82 (lv_at hl 3 rfl) ?_
      obtain ⟨hO_10, hw⟩ := hw
      obtain ⟨h9i, hw⟩ := hw
      refine cw_ild hx hb hK hP hO_10.1 hO_10.2.2 h9i hO_10.2.1 dX6_work_84 ?_
      refine hz_iadd hx hb dX6_work_85 ?_
      obtain ⟨h9i, hw⟩ := hw
      refine cw_ald hx hb hK hP hO_8.1 hO_8.2.2 rfl h9i hO_8.2.1 dX6_work_86 ?_
      obtain ⟨hO_14, hw⟩ := hw
      have hFc := cw_free hD hS hA
      obtain ⟨q9, hq9⟩ := cw_at (C := C) (z := z) (r := r) (A := A_4) hO_14.1 hO_14.2
      refine va_callv (va_runV (As := [.ref (cw_g K (r y0 2) (((A_4 (r x4 6) (x5.toNat)) + (A_4 (r y0 0) (x5.toNat))).toNat))]) (rest := []) ⟨hx, hb, hml, hown, hts⟩ (k_c0_plus l D _ C L K z r A_4 (cw_g K (r y0 2) ((A_4 (r x4 7) (x5.toNat)).toNat)) (cw_g K (r y0 2) (((A_4 (r x4 6) (x5.toNat)) + (A_4 (r y0 0) (x5.toNat))).toNat)) _ hw) (cwV 1 hts gX6_work_X0_plus rfl rfl rfl (by decide +kernel) ⟨Nat.le_of_ble_eq_true rfl, Nat.le_of_ble_eq_true rfl⟩) ⟨hm_blind, va_recv hK hP (ci := 0) (q0 := q9) rfl hq9, hm_pre hP hK hD hE⟩ rfl rfl hl.1 rfl (lv_room (Nat.le_of_ble_eq_true rfl)) dX6_work_87 ⟨Nat.le_of_ble_eq_true rfl, Nat.le_of_ble_eq_true rfl⟩) hS (fun q _ h => hFc q h) hFc (fun u t H1 locs ht hvm hw hB hz1 hk1 hS => ?_)
      obtain ⟨rv_11, z_12, _, A_13⟩ := u
      obtain ⟨hP, hK1, hD1⟩ := hB
      rw [ht] at hP
      have hD := hD1.weaken (fun k q _ h => hFc q.1 h)
      have hP : va_P D vwCl (cw_w C L K z_12 r A_13) H1 := hP
      have hD : va_D Ad (cw_w C L K z_12 r A_13) := hD
      generalize H1 = H at hP hS ⊢
      refine W.eq (g2 := F0 m 90 ls []) rfl ?_
      obtain ⟨x5_15, hx5_15⟩ : ∃ y : Int, y = x5 + (-1) := ⟨_, rfl⟩
      have hw := hw x5_15 hx5_15
      refine lv_iinc (v := hz_i x5_15) (lv' := [(5, .int (hz_i x5_15)), (0, .ref y0), (2, .int (hz_i y2)), (4, .ref x4)]) hx hb dX6_work_90 hl (k := 3) rfl (by rw [hx5_15]; exact hz_i_add _ _) (by decide) rfl (fun ls hl => ?_)
      refine lv_goto (tgt := 24) hx hb dX6_work_93 (by decide) ?_
      exact (hP24 z_12 A_13 x5_15).mp hw H locs ls hP hD hS (lv_sub hl [1, 2, 3, 0] rfl)
    refine lv_iload hx hb dX6_work_24 (lv_at hl 3 rfl) ?_
    obtain ⟨h9a, hw⟩ := hw
    refine hz_if_lt (tgt := 96) hx hb dX6_work_26 (by decide) h9a (fun c_16 => ?_) (fun c_16 => ?_)
    · have hw := hw.1 c_16
      refine lv_aload_n hx hb dX6_work_96 rfl (lv_at hl 0 rfl) ?_
      refine lv_aload hx hb dX6_work_97 (lv_at hl 2 rfl) ?_
      obtain ⟨hO_19, hw⟩ := hw
      have hFc := cw_free hD hS hA
      obtain ⟨q9, hq9⟩ := cw_at (C := C) (z := z) (r := r) (A := A) hO_19.1 hO_19.2
      refine va_callv (va_runV (As := [.ref x4]) (rest := []) ⟨hx, hb, hml, hown, hts⟩ (k_c6_dropUnreached l D _ C L K z r A y0 x4 _ hw) (cwV 1 hts gX6_work_X6_dropUnreached rfl rfl rfl (by decide +kernel) ⟨Nat.le_of_ble_eq_true rfl, Nat.le_of_ble_eq_true rfl⟩) ⟨hm_blind, va_recv hK hP (ci := 6) (q0 := q9) rfl hq9, hm_pre hP hK hD hE⟩ rfl rfl hl.1 rfl (lv_room (Nat.le_of_ble_eq_true rfl)) dX6_work_99 ⟨Nat.le_of_ble_eq_true rfl, Nat.le_of_ble_eq_true rfl⟩) hS (fun q _ h => hFc q h) hFc (fun u t H1 locs ht hvm hw hB hz1 hk1 hS => ?_)
      obtain ⟨rv_17, _, _, A_18⟩ := u
      obtain ⟨hP, hK1, hD1⟩ := hB
      rw [ht] at hP
      have hD := hD1.weaken (fun k q _ h => hFc q.1 h)
      have hP : va_P D vwCl (cw_w C L K z r A_18) H1 := hP
      have hD : va_D Ad (cw_w C L K z r A_18) := hD
      generalize H1 = H at hP hS ⊢
      refine W.eq (g2 := F0 m 102 ls []) rfl ?_
      subst hQQ
      subst hAe
      exact W.vret hx hb hr (fun t ht hW => ⟨⟨(0, z, r, A_18), rfl, hw, by rw [ht]; exact hP, va_K.moved hW.alike hK, hD⟩, hS.F ht⟩) hS.2.2 dX6_work_102
    · have hw := hw.2 c_16
      refine lv_aload_n hx hb dX6_work_29 rfl (lv_at hl 0 rfl) ?_
      obtain ⟨hO_20, hw⟩ := hw
      refine cw_get (ci := 6) (v := .ref (r y0 0)) hx hb hts hin6 hown hK hP hO_20.1 hO_20.2 rfl 0 (by decide) (hts (.fieldLink RX6 9 "HiddenMoves$Reply" "moves" "[I") (List.mem_cons_of_mem _ (List.mem_append_left _ (List.mem_append_left _ (List.mem_append_left _ (List.mem_append_left _ (List.mem_append_left _ (List.mem_append_left _ (List.mem_of_getElem? (i := 2) rfl))))))))) (fun _ h9 => h9) rfl dX6_work_30 ?_
      refine lv_iload hx hb dX6_work_33 (lv_at hl 3 rfl) ?_
      refine lv_aload_n hx hb dX6_work_35 rfl (lv_at hl 0 rfl) ?_
      refine lv_aload hx hb dX6_work_36 (lv_at hl 2 rfl) ?_
      refine lv_iload hx hb dX6_work_38 (lv_at hl 3 rfl) ?_
      refine lv_iload_n hx hb dX6_work_40 rfl (lv_at hl 1 rfl) ?_
      obtain ⟨h9a, hw⟩ := hw
      refine hz_if_ne (tgt := 48) hx hb dX6_work_41 (by decide) h9a (fun c_21 => ?_) (fun c_21 => ?_)
      · have hw := hw.1 c_21
        refine lv_iconst (v := hz_i (-1)) hx hb dX6_work_48 (by decide +kernel) ?_
        exact L49 z A x5 (-1) x5 x4 y0 x5 (r y0 0) hw H locs ls hP hD hS (lv_sub hl [0, 1, 2, 3] rfl)
      · have hw := hw.2 c_21
        refine lv_iconst (v := hz_i 1) hx hb dX6_work_44 (by decide +kernel) ?_
        refine lv_goto (tgt := 49) hx hb dX6_work_45 (by decide) ?_
        exact L49 z A x5 1 x5 x4 y0 x5 (r y0 0) hw H locs ls hP hD hS (lv_sub hl [0, 1, 2, 3] rfl)
  have hP := hP0; have hD := hD0; have hS := hS0; have hl := hl0; have hw := hw0
  obtain ⟨H, hH⟩ : ∃ H : Heap, H = s.heap := ⟨_, rfl⟩
  obtain ⟨locs, hlocs⟩ : ∃ L : List Loc, L = [] := ⟨_, rfl⟩
  rw [← hH] at hP
  have hS : va_S Ad s.heap H locs := by rw [hH, hlocs]; exact hS
  refine mw_HL hH hlocs ?_
  refine lv_aload_n hx hb dX6_work_0 rfl (lv_at hl 0 rfl) ?_
  refine lv_aload_n hx hb dX6_work_1 rfl (lv_at hl 1 rfl) ?_
  refine lv_iload_n hx hb dX6_work_2 rfl (lv_at hl 2 rfl) ?_
  refine lv_aload_n hx hb dX6_work_3 rfl (lv_at hl 3 rfl) ?_
  obtain ⟨hO_25, hw⟩ := hw
  have hFc := cw_free hD hS hA
  obtain ⟨q9, hq9⟩ := cw_at (C := C) (z := z) (r := r) (A := A) hO_25.1 hO_25.2
  refine va_callv (va_runV (As := [.ref y1, .int (hz_i y2), .ref y3]) (rest := []) ⟨hx, hb, hml, hown, hts⟩ (k_c6_gather l D _ C L K z r A y0 y1 y2 y3 _ hw) (cwV 3 hts gX6_work_X6_gather rfl rfl rfl (by decide +kernel) ⟨Nat.le_of_ble_eq_true rfl, Nat.le_of_ble_eq_true rfl⟩) ⟨hm_blind, va_recv hK hP (ci := 6) (q0 := q9) rfl hq9, hm_pre hP hK hD hE⟩ rfl rfl hl.1 rfl (lv_room (Nat.le_of_ble_eq_true rfl)) dX6_work_4 ⟨Nat.le_of_ble_eq_true rfl, Nat.le_of_ble_eq_true rfl⟩) hS (fun q _ h => hFc q h) hFc (fun u t H1 locs ht hvm hw hB hz1 hk1 hS => ?_)
  obtain ⟨rv_22, z_23, _, A_24⟩ := u
  obtain ⟨hP, hK1, hD1⟩ := hB
  rw [ht] at hP
  have hD := hD1.weaken (fun k q _ h => hFc q.1 h)
  have hP : va_P D vwCl (cw_w C L K z_23 r A_24) H1 := hP
  have hD : va_D Ad (cw_w C L K z_23 r A_24) := hD
  generalize H1 = H at hP hS ⊢
  refine W.eq (g2 := F0 m 7 ls []) rfl ?_
  refine lv_aload_n hx hb dX6_work_7 rfl (lv_at hl 1 rfl) ?_
  obtain ⟨hO_26, hw⟩ := hw
  refine cw_get (ci := 2) (v := .ref (r y1 1)) hx hb hts hin2 hown hK hP hO_26.1 hO_26.2 rfl 1 (by decide) (hts (.fieldLink RX6 43 "HiddenMoves$Game" "sides" "[LHiddenMoves$Side;") (List.mem_cons_of_mem _ (List.mem_append_left _ (List.mem_append_left _ (List.mem_append_left _ (List.mem_append_left _ (List.mem_append_left _ (List.mem_append_left _ (List.mem_of_getElem? (i := 0) rfl))))))))) (fun _ h9 => h9) rfl dX6_work_8 ?_
  refine lv_iload_n hx hb dX6_work_11 rfl (lv_at hl 2 rfl) ?_
  obtain ⟨hO_27, hw⟩ := hw
  obtain ⟨h9i, hw⟩ := hw
  refine cw_ald hx hb hK hP hO_27.1 hO_27.2.2 rfl h9i hO_27.2.1 dX6_work_12 ?_
  refine lv_astore (lv' := [(4, .ref (cw_g K (r y1 1) (y2.toNat))), (0, .ref y0), (1, .ref y1), (2, .int (hz_i y2)), (3, .ref y3)]) hx hb dX6_work_13 hl (by decide) rfl (fun ls hl => ?_)
  refine lv_aload hx hb dX6_work_15 (lv_at hl 0 rfl) ?_
  obtain ⟨hO_28, hw⟩ := hw
  refine cw_get (ci := 7) (v := .int (hz_i (z_23 (cw_g K (r y1 1) (y2.toNat)) 0))) hx hb hts hin7 hown hK hP hO_28.1 hO_28.2 rfl 0 (by decide) (hts (.fieldLink RX6 68 "HiddenMoves$Side" "sets" "I") (List.mem_cons_of_mem _ (List.mem_append_left _ (List.mem_append_left _ (List.mem_append_left _ (List.mem_append_left _ (List.mem_append_left _ (List.mem_append_left _ (List.mem_of_getElem? (i := 1) rfl))))))))) (fun _ h9 => h9) rfl dX6_work_17 ?_
  refine lv_iconst (v := hz_i 1) hx hb dX6_work_20 (by decide +kernel) ?_
  refine hz_isub hx hb dX6_work_21 ?_
  refine hz_topi (fun x5_29 hx5_29 => ?_)
  have hw := hw x5_29 hx5_29
  refine lv_istore (lv' := [(5, .int (hz_i x5_29)), (4, .ref (cw_g K (r y1 1) (y2.toNat))), (0, .ref y0), (1, .ref y1), (2, .int (hz_i y2)), (3, .ref y3)]) hx hb dX6_work_22 hl (by decide) rfl (fun ls hl => ?_)
  exact L24 z_23 A_24 (cw_g K (r y1 1) (y2.toNat)) x5_29 hw H locs ls hP hD hS (lv_sub hl [2, 4, 1, 0] rfl)

noncomputable def wp_c6_worth (L : List Nat) (K : Nat → cw_K) (z : Nat → Nat → Int) (r : Nat → Nat → Nat) (A : Nat → Nat → Int) (y0 : Nat) (Q : Nat → Prop) : Prop := cw_O L K 6 y0 ∧ cw_G L K 4 (r y0 2) ∧ ((0 : Int) ≤ 0 ∧ 0 < (cw_n K (r y0 2) : Int)) ∧ Q (cw_g K (r y0 2) ((0 : Int).toNat))
set_option maxHeartbeats 4000000 in
set_option maxRecDepth 100000 in
theorem k_c6_worth (l : Launch) (D : va_G) (sz : Nat) (C : Nat → ClassId) (L : List Nat) (K : Nat → cw_K) (z : Nat → Nat → Int) (r : Nat → Nat → Nat) (A : Nat → Nat → Int) (y0 : Nat) (Q : Nat → Prop) (hw : wp_c6_worth L K z r A y0 Q) : Met l yX6_worth wsX6_worth ({ frames := 0, cells := 0, slots := 0, locals := 0 } : Room) (va_Pc [.ref y0] (hm_P D (cw_w C L K z r A) (cw_t C) sz)) (va_Qr (S := Nat × (Nat → Nat → Int) × (Nat → Nat → Nat) × (Nat → Nat → Int)) (fun u => Q u.1) (fun u a t => a = u.1 ∧ hm_B D (va_A (cw_w C L K z r A) sz) (cw_w C L K z r A) (cw_t C) t) (va_A (cw_w C L K z r A) sz)) 0 0 (va_A (cw_w C L K z r A) sz) := by
  refine Met.ofW (cc := cX6_worth) (maxL := 1) (ret := (some (.object "HiddenMoves$Big"))) (by decide) rfl ?_
  intro p e s m args below meth c s₁ B hml hv
  obtain ⟨rfl, hsz, hP, hK, hD0, hE⟩ := hv
  have hx := B.exec
  have hb := B.bytes
  have hr := B.returns
  have hts := atoms_spec (ws := wsX6_worth) B.pre
  have hown : s.vm.findClass RX6 = some m.cls := findClass_of_methodNamed B.named
  have hlocks := B.notSynchronized
  have hin6 : ∀ w ∈ u_ws RX6 TX6 5, w ∈ wsX6_worth := fun w h => List.mem_cons_of_mem _ (List.mem_append_right _ (h))
  subst hsz
  have hD := hD0.self (sz := s.heap.size)
  generalize hAe : va_A (cw_w C L K z r A) s.heap.size = Ad at hD ⊢
  have hA : ∀ q : Nat, s.heap.size ≤ q → Ad q := fun q h => by rw [← hAe]; exact Or.inr h
  have hS : va_S Ad s.heap s.heap [] := va_S.rf
  have hl := lv_entry ([.ref y0]) (n := 1) (Nat.le_of_ble_eq_true rfl)
  rw [lg_entry_eq]
  generalize (lg_sl ([.ref y0]) ++ List.replicate (1 - (lg_sl ([.ref y0])).length) Slot.unset).toArray = ls at hl ⊢
  have hl : lv_has ls 1 [(0, .ref y0)] := hl
  refine mw_Q (fun QQ hQQ => ?_)
  have hP0 := hP; have hD0 := hD; have hS0 := hS; have hl0 := hl; have hw0 := hw
  clear hP hD hS hl hw
  have hP := hP0; have hD := hD0; have hS := hS0; have hl := hl0; have hw := hw0
  obtain ⟨H, hH⟩ : ∃ H : Heap, H = s.heap := ⟨_, rfl⟩
  obtain ⟨locs, hlocs⟩ : ∃ L : List Loc, L = [] := ⟨_, rfl⟩
  rw [← hH] at hP
  have hS : va_S Ad s.heap H locs := by rw [hH, hlocs]; exact hS
  refine mw_HL hH hlocs ?_
  refine lv_aload_n hx hb dX6_worth_0 rfl (lv_at hl 0 rfl) ?_
  obtain ⟨hO_1, hw⟩ := hw
  refine cw_get (ci := 6) (v := .ref (r y0 2)) hx hb hts hin6 hown hK hP hO_1.1 hO_1.2 rfl 2 (by decide) (hts (.fieldLink RX6 21 "HiddenMoves$Reply" "gains" "[LHiddenMoves$Big;") (List.mem_cons_of_mem _ (List.mem_append_left _ (List.mem_of_getElem? (i := 0) rfl)))) (fun _ h9 => h9) rfl dX6_worth_1 ?_
  refine lv_iconst (v := hz_i 0) hx hb dX6_worth_4 (by decide +kernel) ?_
  obtain ⟨hO_2, hw⟩ := hw
  obtain ⟨h9i, hw⟩ := hw
  refine cw_ald hx hb hK hP hO_2.1 hO_2.2.2 rfl h9i hO_2.2.1 dX6_worth_5 ?_
  subst hQQ
  subst hAe
  exact W.aret hx hb hr (Or.inl ⟨_, rfl⟩) (Or.inr ⟨_, rfl⟩) (fun t ht hW => ⟨⟨(cw_g K (r y0 2) ((0 : Int).toNat), z, r, A), (cw_g K (r y0 2) ((0 : Int).toNat)), rfl, hw, rfl, by rw [ht]; exact hP, va_K.moved hW.alike hK, hD⟩, hS.F ht⟩) hS.2.2 dX6_worth_6

noncomputable def wp_c4_shareTwos (L : List Nat) (K : Nat → cw_K) (z : Nat → Nat → Int) (r : Nat → Nat → Nat) (A : Nat → Nat → Int) (y0 : Nat) (Q : (Nat → Nat → Int) → (Nat → Nat → Int) → Prop) : Prop := cw_O L K 4 y0 ∧ cw_O L K 0 (r y0 0) ∧ wp_c0_lowZeros L K z r A (r y0 0) (fun rv_2 => cw_O L K 0 (r y0 1) ∧ wp_c0_lowZeros L K z r A (r y0 1) (fun rv_4 => hz_rI rv_2 ∧ hz_rI rv_4 ∧ ∀ x9_6 : Int, x9_6 = min rv_2 rv_4 → wp_c0_shiftDown L K z r A (r y0 0) x9_6 (fun z_8 A_9 => wp_c0_shiftDown L K z_8 r A_9 (r y0 1) x9_6 (fun z_11 A_12 => Q z_11 A_12))))
set_option maxHeartbeats 4000000 in
set_option maxRecDepth 100000 in
theorem k_c4_shareTwos (l : Launch) (D : va_G) (sz : Nat) (C : Nat → ClassId) (L : List Nat) (K : Nat → cw_K) (z : Nat → Nat → Int) (r : Nat → Nat → Nat) (A : Nat → Nat → Int) (y0 : Nat) (Q : (Nat → Nat → Int) → (Nat → Nat → Int) → Prop) (hw : wp_c4_shareTwos L K z r A y0 Q) : Met l yX4_shareTwos wsX4_shareTwos ({ frames := 2, cells := 0, slots := 0, locals := 48 } : Room) (va_Pc [.ref y0] (hm_P D (cw_w C L K z r A) (cw_t C) sz)) (va_Qv (S := Int × (Nat → Nat → Int) × (Nat → Nat → Nat) × (Nat → Nat → Int)) (fun u => Q u.2.1 u.2.2.2) (fun u t => hm_B D (va_A (cw_w C L K z r A) sz) (cw_w C L K u.2.1 r u.2.2.2) (cw_t C) t) (va_A (cw_w C L K z r A) sz)) 0 0 (va_A (cw_w C L K z r A) sz) := by
  refine Met.ofW (cc := cX4_shareTwos) (maxL := 2) (ret := none) (by decide) rfl ?_
  intro p e s m args below meth c s₁ B hml hv
  obtain ⟨rfl, hsz, hP, hK, hD0, hE⟩ := hv
  have hx := B.exec
  have hb := B.bytes
  have hr := B.returns
  have hts := atoms_spec (ws := wsX4_shareTwos) B.pre
  have hown : s.vm.findClass RX4 = some m.cls := findClass_of_methodNamed B.named
  have hlocks := B.notSynchronized
  have hin4 : ∀ w ∈ u_ws RX4 TX4 6, w ∈ wsX4_shareTwos := fun w h => List.mem_cons_of_mem _ (List.mem_append_left _ (List.mem_append_right _ (h)))
  subst hsz
  have hD := hD0.self (sz := s.heap.size)
  generalize hAe : va_A (cw_w C L K z r A) s.heap.size = Ad at hD ⊢
  have hA : ∀ q : Nat, s.heap.size ≤ q → Ad q := fun q h => by rw [← hAe]; exact Or.inr h
  have hS : va_S Ad s.heap s.heap [] := va_S.rf
  have hl := lv_entry ([.ref y0]) (n := 2) (Nat.le_of_ble_eq_true rfl)
  rw [lg_entry_eq]
  generalize (lg_sl ([.ref y0]) ++ List.replicate (2 - (lg_sl ([.ref y0])).length) Slot.unset).toArray = ls at hl ⊢
  have hl : lv_has ls 2 [(0, .ref y0)] := hl
  refine mw_Q (fun QQ hQQ => ?_)
  have hP0 := hP; have hD0 := hD; have hS0 := hS; have hl0 := hl; have hw0 := hw
  clear hP hD hS hl hw
  have hP := hP0; have hD := hD0; have hS := hS0; have hl := hl0; have hw := hw0
  obtain ⟨H, hH⟩ : ∃ H : Heap, H = s.heap := ⟨_, rfl⟩
  obtain ⟨locs, hlocs⟩ : ∃ L : List Loc, L = [] := ⟨_, rfl⟩
  rw [← hH] at hP
  have hS : va_S Ad s.heap H locs := by rw [hH, hlocs]; exact hS
  refine mw_HL hH hlocs ?_
  refine lv_aload_n hx hb dX4_shareTwos_0 rfl (lv_at hl 0 rfl) ?_
  obtain ⟨hO_1, hw⟩ := hw
  refine cw_get (ci := 4) (v := .ref (r y0 0)) hx hb hts hin4 hown hK hP hO_1.1 hO_1.2 rfl 0 (by decide) (hts (.fieldLink RX4 14 "HiddenMoves$Ratio" "top" "LHiddenMoves$Big;") (List.mem_cons_of_mem _ (List.mem_append_left _ (List.mem_append_left _ (List.mem_append_left _ (List.mem_of_getElem? (i := 0) rfl)))))) (fun _ h9 => h9) rfl dX4_shareTwos_1 ?_
  obtain ⟨hO_3, hw⟩ := hw
  have hFc := cw_free hD hS hA
  obtain ⟨q9, hq9⟩ := cw_at (C := C) (z := z) (r := r) (A := A) hO_3.1 hO_3.2
  refine va_calli (va_runV (As := []) (rest := []) ⟨hx, hb, hml, hown, hts⟩ (k_c0_lowZeros l D _ C L K z r A (r y0 0) _ hw) (cwV 0 hts gX4_shareTwos_X0_lowZeros rfl rfl rfl (by decide +kernel) ⟨Nat.le_of_ble_eq_true rfl, Nat.le_of_ble_eq_true rfl⟩) ⟨hm_blind, va_recv hK hP (ci := 0) (q0 := q9) rfl hq9, hm_pre hP hK hD hE⟩ rfl rfl hl.1 rfl (lv_room (Nat.le_of_ble_eq_true rfl)) dX4_shareTwos_4 ⟨Nat.le_of_ble_eq_true rfl, Nat.le_of_ble_eq_true rfl⟩) hS (fun q _ h => hFc q h) hFc (fun rv u t H1 locs ht hvm hw hB hz1 hk1 hS => ?_)
  obtain ⟨rv_2, _, _, _⟩ := u
  obtain ⟨hP, hK1, hD1⟩ := hB
  rw [ht] at hP
  obtain ⟨hrv, hw⟩ := hw
  subst hrv
  have hD := hD1.weaken (fun k q _ h => hFc q.1 h)
  have hP : va_P D vwCl (cw_w C L K z r A) H1 := hP
  have hD : va_D Ad (cw_w C L K z r A) := hD
  generalize H1 = H at hP hS ⊢
  refine W.eq (g2 := F0 m 7 ls [.int (hz_i rv_2)]) rfl ?_
  refine lv_aload_n hx hb dX4_shareTwos_7 rfl (lv_at hl 0 rfl) ?_
  refine cw_get (ci := 4) (v := .ref (r y0 1)) hx hb hts hin4 hown hK hP hO_1.1 hO_1.2 rfl 1 (by decide) (hts (.fieldLink RX4 20 "HiddenMoves$Ratio" "bottom" "LHiddenMoves$Big;") (List.mem_cons_of_mem _ (List.mem_append_left _ (List.mem_append_left _ (List.mem_append_left _ (List.mem_of_getElem? (i := 1) rfl)))))) (fun _ h9 => h9) rfl dX4_shareTwos_8 ?_
  obtain ⟨hO_5, hw⟩ := hw
  have hFc := cw_free hD hS hA
  obtain ⟨q9, hq9⟩ := cw_at (C := C) (z := z) (r := r) (A := A) hO_5.1 hO_5.2
  refine va_calli (va_runV (As := []) (rest := [.int (hz_i rv_2)]) ⟨hx, hb, hml, hown, hts⟩ (k_c0_lowZeros l D _ C L K z r A (r y0 1) _ hw) (cwV 0 hts gX4_shareTwos_X0_lowZeros rfl rfl rfl (by decide +kernel) ⟨Nat.le_of_ble_eq_true rfl, Nat.le_of_ble_eq_true rfl⟩) ⟨hm_blind, va_recv hK hP (ci := 0) (q0 := q9) rfl hq9, hm_pre hP hK hD hE⟩ rfl rfl hl.1 rfl (lv_room (Nat.le_of_ble_eq_true rfl)) dX4_shareTwos_11 ⟨Nat.le_of_ble_eq_true rfl, Nat.le_of_ble_eq_true rfl⟩) hS (fun q _ h => hFc q h) hFc (fun rv u t H1 locs ht hvm hw hB hz1 hk1 hS => ?_)
  obtain ⟨rv_4, _, _, _⟩ := u
  obtain ⟨hP, hK1, hD1⟩ := hB
  rw [ht] at hP
  obtain ⟨hrv, hw⟩ := hw
  subst hrv
  have hD := hD1.weaken (fun k q _ h => hFc q.1 h)
  have hP : va_P D vwCl (cw_w C L K z r A) H1 := hP
  have hD : va_D Ad (cw_w C L K z r A) := hD
  generalize H1 = H at hP hS ⊢
  refine W.eq (g2 := F0 m 14 ls [.int (hz_i rv_4), .int (hz_i rv_2)]) rfl ?_
  obtain ⟨h9a, hw⟩ := hw
  obtain ⟨h9b, hw⟩ := hw
  refine cw_mmin (x := rv_2) (y := rv_4) hx hb (by rw [hml]; exact hl.1.symm) hown (hts (.methodLink RX4 71 Lib.Math.min.name) (List.mem_cons_of_mem _ (List.mem_append_left _ (List.mem_append_left _ (List.mem_append_left _ (List.mem_of_getElem? (i := 2) rfl)))))) (hts (.static Lib.Math.min.name) (List.mem_cons_of_mem _ (List.mem_append_left _ (List.mem_append_left _ (List.mem_append_left _ (List.mem_of_getElem? (i := 3) rfl)))))) (hts (.initialized "java/lang/Math") (List.mem_cons_of_mem _ (List.mem_append_left _ (List.mem_append_left _ (List.mem_append_left _ (List.mem_of_getElem? (i := 4) rfl)))))) (hts (.code Lib.Math.min.name Lib.Math.min.code 2 (some .int)) (List.mem_cons_of_mem _ (List.mem_append_left _ (List.mem_append_left _ (List.mem_append_left _ (List.mem_of_getElem? (i := 5) rfl)))))) (Nat.le_of_ble_eq_true rfl) (Nat.le_of_ble_eq_true rfl) (Nat.zero_le _) (Nat.zero_le _) dX4_shareTwos_14 h9a h9b (fun x9_6 hx9_6 => ?_)
  have hw := hw x9_6 hx9_6
  refine lv_istore_n (lv' := [(1, .int (hz_i x9_6)), (0, .ref y0)]) hx hb dX4_shareTwos_17 rfl hl (by decide) rfl (fun ls hl => ?_)
  refine lv_aload_n hx hb dX4_shareTwos_18 rfl (lv_at hl 1 rfl) ?_
  refine cw_get (ci := 4) (v := .ref (r y0 0)) hx hb hts hin4 hown hK hP hO_1.1 hO_1.2 rfl 0 (by decide) (hts (.fieldLink RX4 14 "HiddenMoves$Ratio" "top" "LHiddenMoves$Big;") (List.mem_cons_of_mem _ (List.mem_append_left _ (List.mem_append_left _ (List.mem_append_left _ (List.mem_of_getElem? (i := 0) rfl)))))) (fun _ h9 => h9) rfl dX4_shareTwos_19 ?_
  refine lv_iload_n hx hb dX4_shareTwos_22 rfl (lv_at hl 0 rfl) ?_
  have hFc := cw_free hD hS hA
  obtain ⟨q9, hq9⟩ := cw_at (C := C) (z := z) (r := r) (A := A) hO_3.1 hO_3.2
  refine va_callv (va_runV (As := [.int (hz_i x9_6)]) (rest := []) ⟨hx, hb, hml, hown, hts⟩ (k_c0_shiftDown l D _ C L K z r A (r y0 0) x9_6 _ hw) (cwV 1 hts gX4_shareTwos_X0_shiftDown rfl rfl rfl (by decide +kernel) ⟨Nat.le_of_ble_eq_true rfl, Nat.le_of_ble_eq_true rfl⟩) ⟨hm_blind, va_recv hK hP (ci := 0) (q0 := q9) rfl hq9, hm_pre hP hK hD hE⟩ rfl rfl hl.1 rfl (lv_room (Nat.le_of_ble_eq_true rfl)) dX4_shareTwos_23 ⟨Nat.le_of_ble_eq_true rfl, Nat.le_of_ble_eq_true rfl⟩) hS (fun q _ h => hFc q h) hFc (fun u t H1 locs ht hvm hw hB hz1 hk1 hS => ?_)
  obtain ⟨rv_7, z_8, _, A_9⟩ := u
  obtain ⟨hP, hK1, hD1⟩ := hB
  rw [ht] at hP
  have hD := hD1.weaken (fun k q _ h => hFc q.1 h)
  have hP : va_P D vwCl (cw_w C L K z_8 r A_9) H1 := hP
  have hD : va_D Ad (cw_w C L K z_8 r A_9) := hD
  generalize H1 = H at hP hS ⊢
  refine W.eq (g2 := F0 m 26 ls []) rfl ?_
  refine lv_aload_n hx hb dX4_shareTwos_26 rfl (lv_at hl 1 rfl) ?_
  refine cw_get (ci := 4) (v := .ref (r y0 1)) hx hb hts hin4 hown hK hP hO_1.1 hO_1.2 rfl 1 (by decide) (hts (.fieldLink RX4 20 "HiddenMoves$Ratio" "bottom" "LHiddenMoves$Big;") (List.mem_cons_of_mem _ (List.mem_append_left _ (List.mem_append_left _ (List.mem_append_left _ (List.mem_of_getElem? (i := 1) rfl)))))) (fun _ h9 => h9) rfl dX4_shareTwos_27 ?_
  refine lv_iload_n hx hb dX4_shareTwos_30 rfl (lv_at hl 0 rfl) ?_
  have hFc := cw_free hD hS hA
  obtain ⟨q9, hq9⟩ := cw_at (C := C) (z := z_8) (r := r) (A := A_9) hO_5.1 hO_5.2
  refine va_callv (va_runV (As := [.int (hz_i x9_6)]) (rest := []) ⟨hx, hb, hml, hown, hts⟩ (k_c0_shiftDown l D _ C L K z_8 r A_9 (r y0 1) x9_6 _ hw) (cwV 1 hts gX4_shareTwos_X0_shiftDown rfl rfl rfl (by decide +kernel) ⟨Nat.le_of_ble_eq_true rfl, Nat.le_of_ble_eq_true rfl⟩) ⟨hm_blind, va_recv hK hP (ci := 0) (q0 := q9) rfl hq9, hm_pre hP hK hD hE⟩ rfl rfl hl.1 rfl (lv_room (Nat.le_of_ble_eq_true rfl)) dX4_shareTwos_31 ⟨Nat.le_of_ble_eq_true rfl, Nat.le_of_ble_eq_true rfl⟩) hS (fun q _ h => hFc q h) hFc (fun u t H1 locs ht hvm hw hB hz1 hk1 hS => ?_)
  obtain ⟨rv_10, z_11, _, A_12⟩ := u
  obtain ⟨hP, hK1, hD1⟩ := hB
  rw [ht] at hP
  have hD := hD1.weaken (fun k q _ h => hFc q.1 h)
  have hP : va_P D vwCl (cw_w C L K z_11 r A_12) H1 := hP
  have hD : va_D Ad (cw_w C L K z_11 r A_12) := hD
  generalize H1 = H at hP hS ⊢
  refine W.eq (g2 := F0 m 34 ls []) rfl ?_
  subst hQQ
  subst hAe
  exact W.vret hx hb hr (fun t ht hW => ⟨⟨(0, z_11, r, A_12), rfl, hw, by rw [ht]; exact hP, va_K.moved hW.alike hK, hD⟩, hS.F ht⟩) hS.2.2 dX4_shareTwos_34

noncomputable def wp_c4_findOddDivisor_116 (L : List Nat) (K : Nat → cw_K) (z : Nat → Nat → Int) (r : Nat → Nat → Nat) (A : Nat → Nat → Int) (y0 : Nat) (x1 : Int) (x3 : Nat) (t0 : Nat) (t1 : Nat) (t2 : Nat) (P60 : (Nat → Nat → Int) → (Nat → Nat → Int) → Int → Prop) (Q : (Nat → Nat → Int) → (Nat → Nat → Int) → Prop) : Prop := cw_O L K 0 t2 ∧ wp_c0_putDifference L K z r A t2 t1 t0 (fun z_2 A_3 => cw_O L K 0 x3 ∧ wp_c0_lowZeros L K z_2 r A_3 x3 (fun rv_5 => wp_c0_shiftDown L K z_2 r A_3 x3 rv_5 (fun z_8 A_9 => ∀ x1_10 : Int, x1_10 = x1 + 1 → P60 z_8 A_9 x1_10)))
noncomputable def wp_c4_findOddDivisor_98 (L : List Nat) (K : Nat → cw_K) (z : Nat → Nat → Int) (r : Nat → Nat → Nat) (A : Nat → Nat → Int) (y0 : Nat) (x1 : Int) (x2 : Int) (t0 : Nat) (P60 : (Nat → Nat → Int) → (Nat → Nat → Int) → Int → Prop) (Q : (Nat → Nat → Int) → (Nat → Nat → Int) → Prop) : Prop := hz_rI x2 ∧ ((x2 ≤ 0 → cw_O L K 4 y0 ∧ wp_c4_findOddDivisor_116 L K z r A y0 x1 t0 (r y0 3) t0 t0 P60 Q) ∧ (¬ (x2 ≤ 0) → cw_O L K 4 y0 ∧ wp_c4_findOddDivisor_116 L K z r A y0 x1 t0 (r y0 4) t0 t0 P60 Q))
noncomputable def wp_c4_findOddDivisor_60 (L : List Nat) (K : Nat → cw_K) (z : Nat → Nat → Int) (r : Nat → Nat → Nat) (A : Nat → Nat → Int) (y0 : Nat) (x1 : Int) (Q : (Nat → Nat → Int) → (Nat → Nat → Int) → Prop) : Prop := ∀ P60 : (Nat → Nat → Int) → (Nat → Nat → Int) → Int → Prop, (∀ (z : Nat → Nat → Int) (A : Nat → Nat → Int) (x1 : Int), hz_rI x1 ∧ ((100000 ≤ x1 → Q z A) ∧ (¬ (100000 ≤ x1) → cw_O L K 4 y0 ∧ cw_O L K 0 (r y0 3) ∧ wp_c0_orderOfSizes L K z r A (r y0 3) (r y0 4) (fun rv_16 => hz_rI rv_16 ∧ ((¬ rv_16 = 0 → hz_rI rv_16 ∧ ((rv_16 ≤ 0 → wp_c4_findOddDivisor_98 L K z r A y0 x1 rv_16 (r y0 4) P60 Q) ∧ (¬ (rv_16 ≤ 0) → wp_c4_findOddDivisor_98 L K z r A y0 x1 rv_16 (r y0 3) P60 Q))) ∧ (rv_16 = 0 → Q z A))))) → P60 z A x1) → P60 z A x1
noncomputable def wp_c4_findOddDivisor (L : List Nat) (K : Nat → cw_K) (z : Nat → Nat → Int) (r : Nat → Nat → Nat) (A : Nat → Nat → Int) (y0 : Nat) (Q : (Nat → Nat → Int) → (Nat → Nat → Int) → Prop) : Prop := cw_O L K 4 y0 ∧ cw_O L K 0 (r y0 3) ∧ wp_c0_copy L K z r A (r y0 3) (r y0 0) (fun z_22 A_23 => ∀ z_25 : Nat → Nat → Int, z_25 = cw_s z_22 (r y0 3) 2 0 → wp_c0_lowZeros L K z_25 r A_23 (r y0 3) (fun rv_26 => wp_c0_shiftDown L K z_25 r A_23 (r y0 3) rv_26 (fun z_28 A_29 => cw_O L K 0 (r y0 4) ∧ wp_c0_copy L K z_28 r A_29 (r y0 4) (r y0 1) (fun z_31 A_32 => wp_c0_lowZeros L K z_31 r A_32 (r y0 4) (fun rv_34 => wp_c0_shiftDown L K z_31 r A_32 (r y0 4) rv_34 (fun z_36 A_37 => wp_c4_findOddDivisor_60 L K z_36 r A_37 y0 0  Q))))))
set_option maxHeartbeats 4000000 in
set_option maxRecDepth 100000 in
theorem k_c4_findOddDivisor (l : Launch) (D : va_G) (sz : Nat) (C : Nat → ClassId) (L : List Nat) (K : Nat → cw_K) (z : Nat → Nat → Int) (r : Nat → Nat → Nat) (A : Nat → Nat → Int) (y0 : Nat) (Q : (Nat → Nat → Int) → (Nat → Nat → Int) → Prop) (hw : wp_c4_findOddDivisor L K z r A y0 Q) : Met l yX4_findOddDivisor wsX4_findOddDivisor ({ frames := 2, cells := 0, slots := 0, locals := 51 } : Room) (va_Pc [.ref y0] (hm_P D (cw_w C L K z r A) (cw_t C) sz)) (va_Qv (S := Int × (Nat → Nat → Int) × (Nat → Nat → Nat) × (Nat → Nat → Int)) (fun u => Q u.2.1 u.2.2.2) (fun u t => hm_B D (va_A (cw_w C L K z r A) sz) (cw_w C L K u.2.1 r u.2.2.2) (cw_t C) t) (va_A (cw_w C L K z r A) sz)) 0 0 (va_A (cw_w C L K z r A) sz) := by
  refine Met.ofW (cc := cX4_findOddDivisor) (maxL := 4) (ret := none) (by decide) rfl ?_
  intro p e s m args below meth c s₁ B hml hv
  obtain ⟨rfl, hsz, hP, hK, hD0, hE⟩ := hv
  have hx := B.exec
  have hb := B.bytes
  have hr := B.returns
  have hts := atoms_spec (ws := wsX4_findOddDivisor) B.pre
  have hown : s.vm.findClass RX4 = some m.cls := findClass_of_methodNamed B.named
  have hlocks := B.notSynchronized
  have hin0 : ∀ w ∈ u_ws RX0 TX0 3, w ∈ wsX4_findOddDivisor := fun w h => List.mem_cons_of_mem _ (List.mem_append_right _ (h))
  have hin4 : ∀ w ∈ u_ws RX4 TX4 6, w ∈ wsX4_findOddDivisor := fun w h => List.mem_cons_of_mem _ (List.mem_append_left _ (List.mem_append_right _ (h)))
  subst hsz
  have hD := hD0.self (sz := s.heap.size)
  generalize hAe : va_A (cw_w C L K z r A) s.heap.size = Ad at hD ⊢
  have hA : ∀ q : Nat, s.heap.size ≤ q → Ad q := fun q h => by rw [← hAe]; exact Or.inr h
  have hS : va_S Ad s.heap s.heap [] := va_S.rf
  have hl := lv_entry ([.ref y0]) (n := 4) (Nat.le_of_ble_eq_true rfl)
  rw [lg_entry_eq]
  generalize (lg_sl ([.ref y0]) ++ List.replicate (4 - (lg_sl ([.ref y0])).length) Slot.unset).toArray = ls at hl ⊢
  have hl : lv_has ls 4 [(0, .ref y0)] := hl
  refine mw_Q (fun QQ hQQ => ?_)
  have hP0 := hP; have hD0 := hD; have hS0 := hS; have hl0 := hl; have hw0 := hw
  clear hP hD hS hl hw
  have L60 : ∀ (z : Nat → Nat → Int) (A : Nat → Nat → Int) (x1 : Int), wp_c4_findOddDivisor_60 L K z r A y0 x1  Q → ∀ (H : Heap) (locs : List Loc) (ls : Array Slot), va_P D vwCl (cw_w C L K z r A) H → va_D Ad (cw_w C L K z r A) → va_S Ad s.heap H locs → lv_has ls 4 [(0, .ref y0), (1, .int (hz_i x1))] → W p l e (headSpec wsX4_findOddDivisor ({ frames := 2, cells := 0, slots := 0, locals := 51 } : Room)).room s m (List.toArray [.ref y0]) below meth c H locs 0 0 QQ (F0 m 60 ls []) := by
    intro z A x1 hw
    obtain ⟨P60, hP60⟩ : ∃ P : (Nat → Nat → Int) → (Nat → Nat → Int) → Int → Prop, ∀ (z : Nat → Nat → Int) (A : Nat → Nat → Int) (x1 : Int), P z A x1 ↔ (∀ (H : Heap) (locs : List Loc) (ls : Array Slot), va_P D vwCl (cw_w C L K z r A) H → va_D Ad (cw_w C L K z r A) → va_S Ad s.heap H locs → lv_has ls 4 [(0, .ref y0), (1, .int (hz_i x1))] → W p l e (headSpec wsX4_findOddDivisor ({ frames := 2, cells := 0, slots := 0, locals := 51 } : Room)).room s m (List.toArray [.ref y0]) below meth c H locs 0 0 QQ (F0 m 60 ls [])) := ⟨fun (z : Nat → Nat → Int) (A : Nat → Nat → Int) (x1 : Int) => ∀ (H : Heap) (locs : List Loc) (ls : Array Slot), va_P D vwCl (cw_w C L K z r A) H → va_D Ad (cw_w C L K z r A) → va_S Ad s.heap H locs → lv_has ls 4 [(0, .ref y0), (1, .int (hz_i x1))] → W p l e (headSpec wsX4_findOddDivisor ({ frames := 2, cells := 0, slots := 0, locals := 51 } : Room)).room s m (List.toArray [.ref y0]) below meth c H locs 0 0 QQ (F0 m 60 ls []), fun _ _ _ => Iff.rfl⟩
    refine (hP60 z A x1).mp (hw P60 ?_)
    intro z A x1 hw
    refine (hP60 z A x1).mpr ?_
    intro H locs ls hP hD hS hl
    have L116 : ∀ (z : Nat → Nat → Int) (A : Nat → Nat → Int) (x1 : Int) (x3 : Nat) (t0 : Nat) (t1 : Nat) (t2 : Nat), wp_c4_findOddDivisor_116 L K z r A y0 x1 x3 t0 t1 t2 P60 Q → ∀ (H : Heap) (locs : List Loc) (ls : Array Slot), va_P D vwCl (cw_w C L K z r A) H → va_D Ad (cw_w C L K z r A) → va_S Ad s.heap H locs → lv_has ls 4 [(0, .ref y0), (1, .int (hz_i x1)), (3, .ref x3)] → W p l e (headSpec wsX4_findOddDivisor ({ frames := 2, cells := 0, slots := 0, locals := 51 } : Room)).room s m (List.toArray [.ref y0]) below meth c H locs 0 0 QQ (F0 m 116 ls [.ref t0, .ref t1, .ref t2]) := by
      intro z A x1 x3 t0 t1 t2 hw H locs ls hP hD hS hl
      obtain ⟨hO_4, hw⟩ := hw
      have hFc := cw_free hD hS hA
      obtain ⟨q9, hq9⟩ := cw_at (C := C) (z := z) (r := r) (A := A) hO_4.1 hO_4.2
      refine va_callv (va_runV (As := [.ref t1, .ref t0]) (rest := []) ⟨hx, hb, hml, hown, hts⟩ (k_c0_putDifference l D _ C L K z r A t2 t1 t0 _ hw) (cwV 2 hts gX4_findOddDivisor_X0_putDifference rfl rfl rfl (by decide +kernel) ⟨Nat.le_of_ble_eq_true rfl, Nat.le_of_ble_eq_true rfl⟩) ⟨hm_blind, va_recv hK hP (ci := 0) (q0 := q9) rfl hq9, hm_pre hP hK hD hE⟩ rfl rfl hl.1 rfl (lv_room (Nat.le_of_ble_eq_true rfl)) dX4_findOddDivisor_116 ⟨Nat.le_of_ble_eq_true rfl, Nat.le_of_ble_eq_true rfl⟩) hS (fun q _ h => hFc q h) hFc (fun u t H1 locs ht hvm hw hB hz1 hk1 hS => ?_)
      obtain ⟨rv_1, z_2, _, A_3⟩ := u
      obtain ⟨hP, hK1, hD1⟩ := hB
      rw [ht] at hP
      have hD := hD1.weaken (fun k q _ h => hFc q.1 h)
      have hP : va_P D vwCl (cw_w C L K z_2 r A_3) H1 := hP
      have hD : va_D Ad (cw_w C L K z_2 r A_3) := hD
      generalize H1 = H at hP hS ⊢
      refine W.eq (g2 := F0 m 119 ls []) rfl ?_
      refine lv_aload_n hx hb dX4_findOddDivisor_119 rfl (lv_at hl 2 rfl) ?_
      refine lv_aload_n hx hb dX4_findOddDivisor_120 rfl (lv_at hl 2 rfl) ?_
      obtain ⟨hO_6, hw⟩ := hw
      have hFc := cw_free hD hS hA
      obtain ⟨q9, hq9⟩ := cw_at (C := C) (z := z_2) (r := r) (A := A_3) hO_6.1 hO_6.2
      refine va_calli (va_runV (As := []) (rest := [.ref x3]) ⟨hx, hb, hml, hown, hts⟩ (k_c0_lowZeros l D _ C L K z_2 r A_3 x3 _ hw) (cwV 0 hts gX4_findOddDivisor_X0_lowZeros rfl rfl rfl (by decide +kernel) ⟨Nat.le_of_ble_eq_true rfl, Nat.le_of_ble_eq_true rfl⟩) ⟨hm_blind, va_recv hK hP (ci := 0) (q0 := q9) rfl hq9, hm_pre hP hK hD hE⟩ rfl rfl hl.1 rfl (lv_room (Nat.le_of_ble_eq_true rfl)) dX4_findOddDivisor_121 ⟨Nat.le_of_ble_eq_true rfl, Nat.le_of_ble_eq_true rfl⟩) hS (fun q _ h => hFc q h) hFc (fun rv u t H1 locs ht hvm hw hB hz1 hk1 hS => ?_)
      obtain ⟨rv_5, _, _, _⟩ := u
      obtain ⟨hP, hK1, hD1⟩ := hB
      rw [ht] at hP
      obtain ⟨hrv, hw⟩ := hw
      subst hrv
      have hD := hD1.weaken (fun k q _ h => hFc q.1 h)
      have hP : va_P D vwCl (cw_w C L K z_2 r A_3) H1 := hP
      have hD : va_D Ad (cw_w C L K z_2 r A_3) := hD
      generalize H1 = H at hP hS ⊢
      refine W.eq (g2 := F0 m 124 ls [.int (hz_i rv_5), .ref x3]) rfl ?_
      have hFc := cw_free hD hS hA
      obtain ⟨q9, hq9⟩ := cw_at (C := C) (z := z_2) (r := r) (A := A_3) hO_6.1 hO_6.2
      refine va_callv (va_runV (As := [.int (hz_i rv_5)]) (rest := []) ⟨hx, hb, hml, hown, hts⟩ (k_c0_shiftDown l D _ C L K z_2 r A_3 x3 rv_5 _ hw) (cwV 1 hts gX4_findOddDivisor_X0_shiftDown rfl rfl rfl (by decide +kernel) ⟨Nat.le_of_ble_eq_true rfl, Nat.le_of_ble_eq_true rfl⟩) ⟨hm_blind, va_recv hK hP (ci := 0) (q0 := q9) rfl hq9, hm_pre hP hK hD hE⟩ rfl rfl hl.1 rfl (lv_room (Nat.le_of_ble_eq_true rfl)) dX4_findOddDivisor_124 ⟨Nat.le_of_ble_eq_true rfl, Nat.le_of_ble_eq_true rfl⟩) hS (fun q _ h => hFc q h) hFc (fun u t H1 locs ht hvm hw hB hz1 hk1 hS => ?_)
      obtain ⟨rv_7, z_8, _, A_9⟩ := u
      obtain ⟨hP, hK1, hD1⟩ := hB
      rw [ht] at hP
      have hD := hD1.weaken (fun k q _ h => hFc q.1 h)
      have hP : va_P D vwCl (cw_w C L K z_8 r A_9) H1 := hP
      have hD : va_D Ad (cw_w C L K z_8 r A_9) := hD
      generalize H1 = H at hP hS ⊢
      refine W.eq (g2 := F0 m 127 ls []) rfl ?_
      obtain ⟨x1_10, hx1_10⟩ : ∃ y : Int, y = x1 + 1 := ⟨_, rfl⟩
      have hw := hw x1_10 hx1_10
      refine lv_iinc (v := hz_i x1_10) (lv' := [(1, .int (hz_i x1_10)), (0, .ref y0), (3, .ref x3)]) hx hb dX4_findOddDivisor_127 hl (k := 1) rfl (by rw [hx1_10]; exact hz_i_add _ _) (by decide) rfl (fun ls hl => ?_)
      refine lv_goto (tgt := 60) hx hb dX4_findOddDivisor_130 (by decide) ?_
      exact (hP60 z_8 A_9 x1_10).mp hw H locs ls hP hD hS (lv_sub hl [1, 0] rfl)
    have L98 : ∀ (z : Nat → Nat → Int) (A : Nat → Nat → Int) (x1 : Int) (x2 : Int) (t0 : Nat), wp_c4_findOddDivisor_98 L K z r A y0 x1 x2 t0 P60 Q → ∀ (H : Heap) (locs : List Loc) (ls : Array Slot), va_P D vwCl (cw_w C L K z r A) H → va_D Ad (cw_w C L K z r A) → va_S Ad s.heap H locs → lv_has ls 4 [(0, .ref y0), (1, .int (hz_i x1)), (2, .int (hz_i x2))] → W p l e (headSpec wsX4_findOddDivisor ({ frames := 2, cells := 0, slots := 0, locals := 51 } : Room)).room s m (List.toArray [.ref y0]) below meth c H locs 0 0 QQ (F0 m 98 ls [.ref t0]) := by
      intro z A x1 x2 t0 hw H locs ls hP hD hS hl
      refine lv_astore_n (lv' := [(3, .ref t0), (0, .ref y0), (1, .int (hz_i x1)), (2, .int (hz_i x2))]) hx hb dX4_findOddDivisor_98 rfl hl (by decide) rfl (fun ls hl => ?_)
      refine lv_aload_n hx hb dX4_findOddDivisor_99 rfl (lv_at hl 0 rfl) ?_
      refine lv_aload_n hx hb dX4_findOddDivisor_100 rfl (lv_at hl 0 rfl) ?_
      refine lv_iload_n hx hb dX4_findOddDivisor_101 rfl (lv_at hl 3 rfl) ?_
      obtain ⟨h9a, hw⟩ := hw
      refine hz_if_le (tgt := 112) hx hb dX4_findOddDivisor_102 (by decide) h9a (fun c_11 => ?_) (fun c_11 => ?_)
      · have hw := hw.1 c_11
        refine lv_aload_n hx hb dX4_findOddDivisor_112 rfl (lv_at hl 1 rfl) ?_
        obtain ⟨hO_12, hw⟩ := hw
        refine cw_get (ci := 4) (v := .ref (r y0 3)) hx hb hts hin4 hown hK hP hO_12.1 hO_12.2 rfl 3 (by decide) (hts (.fieldLink RX4 27 "HiddenMoves$Ratio" "first" "LHiddenMoves$Big;") (List.mem_cons_of_mem _ (List.mem_append_left _ (List.mem_append_left _ (List.mem_append_left _ (List.mem_of_getElem? (i := 0) rfl)))))) (fun _ h9 => h9) rfl dX4_findOddDivisor_113 ?_
        exact L116 z A x1 t0 (r y0 3) t0 t0 hw H locs ls hP hD hS (lv_sub hl [1, 2, 0] rfl)
      · have hw := hw.2 c_11
        refine lv_aload_n hx hb dX4_findOddDivisor_105 rfl (lv_at hl 1 rfl) ?_
        obtain ⟨hO_13, hw⟩ := hw
        refine cw_get (ci := 4) (v := .ref (r y0 4)) hx hb hts hin4 hown hK hP hO_13.1 hO_13.2 rfl 4 (by decide) (hts (.fieldLink RX4 30 "HiddenMoves$Ratio" "second" "LHiddenMoves$Big;") (List.mem_cons_of_mem _ (List.mem_append_left _ (List.mem_append_left _ (List.mem_append_left _ (List.mem_of_getElem? (i := 3) rfl)))))) (fun _ h9 => h9) rfl dX4_findOddDivisor_106 ?_
        refine lv_goto (tgt := 116) hx hb dX4_findOddDivisor_109 (by decide) ?_
        exact L116 z A x1 t0 (r y0 4) t0 t0 hw H locs ls hP hD hS (lv_sub hl [1, 2, 0] rfl)
    refine lv_iload_n hx hb dX4_findOddDivisor_60 rfl (lv_at hl 1 rfl) ?_
    refine lv_ldc hx hb hown (hts (.constant RX4 83 (100000)) (List.mem_cons_of_mem _ (List.mem_append_left _ (List.mem_append_left _ (List.mem_append_left _ (List.mem_of_getElem? (i := 5) rfl)))))) dX4_findOddDivisor_61 ?_
    refine hz_asi (b := 100000) (by decide +kernel) ?_
    obtain ⟨h9a, hw⟩ := hw
    refine hz_icmp_ge (tgt := 133) hx hb dX4_findOddDivisor_63 (by decide) h9a ⟨by decide, by decide⟩ (fun c_14 => ?_) (fun c_14 => ?_)
    · have hw := hw.1 c_14
      subst hQQ
      subst hAe
      exact W.vret hx hb hr (fun t ht hW => ⟨⟨(0, z, r, A), rfl, hw, by rw [ht]; exact hP, va_K.moved hW.alike hK, hD⟩, hS.F ht⟩) hS.2.2 dX4_findOddDivisor_133
    · have hw := hw.2 c_14
      refine lv_aload_n hx hb dX4_findOddDivisor_66 rfl (lv_at hl 0 rfl) ?_
      obtain ⟨hO_15, hw⟩ := hw
      refine cw_get (ci := 4) (v := .ref (r y0 3)) hx hb hts hin4 hown hK hP hO_15.1 hO_15.2 rfl 3 (by decide) (hts (.fieldLink RX4 27 "HiddenMoves$Ratio" "first" "LHiddenMoves$Big;") (List.mem_cons_of_mem _ (List.mem_append_left _ (List.mem_append_left _ (List.mem_append_left _ (List.mem_of_getElem? (i := 0) rfl)))))) (fun _ h9 => h9) rfl dX4_findOddDivisor_67 ?_
      refine lv_aload_n hx hb dX4_findOddDivisor_70 rfl (lv_at hl 0 rfl) ?_
      refine cw_get (ci := 4) (v := .ref (r y0 4)) hx hb hts hin4 hown hK hP hO_15.1 hO_15.2 rfl 4 (by decide) (hts (.fieldLink RX4 30 "HiddenMoves$Ratio" "second" "LHiddenMoves$Big;") (List.mem_cons_of_mem _ (List.mem_append_left _ (List.mem_append_left _ (List.mem_append_left _ (List.mem_of_getElem? (i := 3) rfl)))))) (fun _ h9 => h9) rfl dX4_findOddDivisor_71 ?_
      obtain ⟨hO_17, hw⟩ := hw
      have hFc := cw_free hD hS hA
      obtain ⟨q9, hq9⟩ := cw_at (C := C) (z := z) (r := r) (A := A) hO_17.1 hO_17.2
      refine va_calli (va_runV (As := [.ref (r y0 4)]) (rest := []) ⟨hx, hb, hml, hown, hts⟩ (k_c0_orderOfSizes l D _ C L K z r A (r y0 3) (r y0 4) _ hw) (cwV 1 hts gX4_findOddDivisor_X0_orderOfSizes rfl rfl rfl (by decide +kernel) ⟨Nat.le_of_ble_eq_true rfl, Nat.le_of_ble_eq_true rfl⟩) ⟨hm_blind, va_recv hK hP (ci := 0) (q0 := q9) rfl hq9, hm_pre hP hK hD hE⟩ rfl rfl hl.1 rfl (lv_room (Nat.le_of_ble_eq_true rfl)) dX4_findOddDivisor_74 ⟨Nat.le_of_ble_eq_true rfl, Nat.le_of_ble_eq_true rfl⟩) hS (fun q _ h => hFc q h) hFc (fun rv u t H1 locs ht hvm hw hB hz1 hk1 hS => ?_)
      obtain ⟨rv_16, _, _, _⟩ := u
      obtain ⟨hP, hK1, hD1⟩ := hB
      rw [ht] at hP
      obtain ⟨hrv, hw⟩ := hw
      subst hrv
      have hD := hD1.weaken (fun k q _ h => hFc q.1 h)
      have hP : va_P D vwCl (cw_w C L K z r A) H1 := hP
      have hD : va_D Ad (cw_w C L K z r A) := hD
      generalize H1 = H at hP hS ⊢
      refine W.eq (g2 := F0 m 77 ls [.int (hz_i rv_16)]) rfl ?_
      refine lv_istore_n (lv' := [(2, .int (hz_i rv_16)), (0, .ref y0), (1, .int (hz_i x1))]) hx hb dX4_findOddDivisor_77 rfl hl (by decide) rfl (fun ls hl => ?_)
      refine lv_iload_n hx hb dX4_findOddDivisor_78 rfl (lv_at hl 0 rfl) ?_
      obtain ⟨h9a, hw⟩ := hw
      refine hz_if_ne (tgt := 83) hx hb dX4_findOddDivisor_79 (by decide) h9a (fun c_18 => ?_) (fun c_18 => ?_)
      · have hw := hw.1 c_18
        refine lv_iload_n hx hb dX4_findOddDivisor_83 rfl (lv_at hl 0 rfl) ?_
        obtain ⟨h9a, hw⟩ := hw
        refine hz_if_le (tgt := 94) hx hb dX4_findOddDivisor_84 (by decide) h9a (fun c_19 => ?_) (fun c_19 => ?_)
        · have hw := hw.1 c_19
          refine lv_aload_n hx hb dX4_findOddDivisor_94 rfl (lv_at hl 1 rfl) ?_
          refine cw_get (ci := 4) (v := .ref (r y0 4)) hx hb hts hin4 hown hK hP hO_15.1 hO_15.2 rfl 4 (by decide) (hts (.fieldLink RX4 30 "HiddenMoves$Ratio" "second" "LHiddenMoves$Big;") (List.mem_cons_of_mem _ (List.mem_append_left _ (List.mem_append_left _ (List.mem_append_left _ (List.mem_of_getElem? (i := 3) rfl)))))) (fun _ h9 => h9) rfl dX4_findOddDivisor_95 ?_
          exact L98 z A x1 rv_16 (r y0 4) hw H locs ls hP hD hS (lv_sub hl [1, 2, 0] rfl)
        · have hw := hw.2 c_19
          refine lv_aload_n hx hb dX4_findOddDivisor_87 rfl (lv_at hl 1 rfl) ?_
          refine cw_get (ci := 4) (v := .ref (r y0 3)) hx hb hts hin4 hown hK hP hO_15.1 hO_15.2 rfl 3 (by decide) (hts (.fieldLink RX4 27 "HiddenMoves$Ratio" "first" "LHiddenMoves$Big;") (List.mem_cons_of_mem _ (List.mem_append_left _ (List.mem_append_left _ (List.mem_append_left _ (List.mem_of_getElem? (i := 0) rfl)))))) (fun _ h9 => h9) rfl dX4_findOddDivisor_88 ?_
          refine lv_goto (tgt := 98) hx hb dX4_findOddDivisor_91 (by decide) ?_
          exact L98 z A x1 rv_16 (r y0 3) hw H locs ls hP hD hS (lv_sub hl [1, 2, 0] rfl)
      · have hw := hw.2 c_18
        subst hQQ
        subst hAe
        exact W.vret hx hb hr (fun t ht hW => ⟨⟨(0, z, r, A), rfl, hw, by rw [ht]; exact hP, va_K.moved hW.alike hK, hD⟩, hS.F ht⟩) hS.2.2 dX4_findOddDivisor_82
  have hP := hP0; have hD := hD0; have hS := hS0; have hl := hl0; have hw := hw0
  obtain ⟨H, hH⟩ : ∃ H : Heap, H = s.heap := ⟨_, rfl⟩
  obtain ⟨locs, hlocs⟩ : ∃ L : List Loc, L = [] := ⟨_, rfl⟩
  rw [← hH] at hP
  have hS : va_S Ad s.heap H locs := by rw [hH, hlocs]; exact hS
  refine mw_HL hH hlocs ?_
  refine lv_aload_n hx hb dX4_findOddDivisor_0 rfl (lv_at hl 0 rfl) ?_
  obtain ⟨hO_20, hw⟩ := hw
  refine cw_get (ci := 4) (v := .ref (r y0 3)) hx hb hts hin4 hown hK hP hO_20.1 hO_20.2 rfl 3 (by decide) (hts (.fieldLink RX4 27 "HiddenMoves$Ratio" "first" "LHiddenMoves$Big;") (List.mem_cons_of_mem _ (List.mem_append_left _ (List.mem_append_left _ (List.mem_append_left _ (List.mem_of_getElem? (i := 0) rfl)))))) (fun _ h9 => h9) rfl dX4_findOddDivisor_1 ?_
  refine lv_aload_n hx hb dX4_findOddDivisor_4 rfl (lv_at hl 0 rfl) ?_
  refine cw_get (ci := 4) (v := .ref (r y0 0)) hx hb hts hin4 hown hK hP hO_20.1 hO_20.2 rfl 0 (by decide) (hts (.fieldLink RX4 14 "HiddenMoves$Ratio" "top" "LHiddenMoves$Big;") (List.mem_cons_of_mem _ (List.mem_append_left _ (List.mem_append_left _ (List.mem_append_left _ (List.mem_of_getElem? (i := 1) rfl)))))) (fun _ h9 => h9) rfl dX4_findOddDivisor_5 ?_
  obtain ⟨hO_24, hw⟩ := hw
  have hFc := cw_free hD hS hA
  obtain ⟨q9, hq9⟩ := cw_at (C := C) (z := z) (r := r) (A := A) hO_24.1 hO_24.2
  refine va_callv (va_runV (As := [.ref (r y0 0)]) (rest := []) ⟨hx, hb, hml, hown, hts⟩ (k_c0_copy l D _ C L K z r A (r y0 3) (r y0 0) _ hw) (cwV 1 hts gX4_findOddDivisor_X0_copy rfl rfl rfl (by decide +kernel) ⟨Nat.le_of_ble_eq_true rfl, Nat.le_of_ble_eq_true rfl⟩) ⟨hm_blind, va_recv hK hP (ci := 0) (q0 := q9) rfl hq9, hm_pre hP hK hD hE⟩ rfl rfl hl.1 rfl (lv_room (Nat.le_of_ble_eq_true rfl)) dX4_findOddDivisor_8 ⟨Nat.le_of_ble_eq_true rfl, Nat.le_of_ble_eq_true rfl⟩) hS (fun q _ h => hFc q h) hFc (fun u t H1 locs ht hvm hw hB hz1 hk1 hS => ?_)
  obtain ⟨rv_21, z_22, _, A_23⟩ := u
  obtain ⟨hP, hK1, hD1⟩ := hB
  rw [ht] at hP
  have hD := hD1.weaken (fun k q _ h => hFc q.1 h)
  have hP : va_P D vwCl (cw_w C L K z_22 r A_23) H1 := hP
  have hD : va_D Ad (cw_w C L K z_22 r A_23) := hD
  generalize H1 = H at hP hS ⊢
  refine W.eq (g2 := F0 m 11 ls []) rfl ?_
  refine lv_aload_n hx hb dX4_findOddDivisor_11 rfl (lv_at hl 0 rfl) ?_
  refine cw_get (ci := 4) (v := .ref (r y0 3)) hx hb hts hin4 hown hK hP hO_20.1 hO_20.2 rfl 3 (by decide) (hts (.fieldLink RX4 27 "HiddenMoves$Ratio" "first" "LHiddenMoves$Big;") (List.mem_cons_of_mem _ (List.mem_append_left _ (List.mem_append_left _ (List.mem_append_left _ (List.mem_of_getElem? (i := 0) rfl)))))) (fun _ h9 => h9) rfl dX4_findOddDivisor_12 ?_
  refine lv_iconst (v := hz_i 0) hx hb dX4_findOddDivisor_15 (by decide +kernel) ?_
  refine cw_putz (ci := 0) (ty := .boolean) (v := .int (hz_i 0)) (x := 0) hx hb hts hin0 tyX0 tyX0_ok nmX0 hown hK hP hD hS hO_24.1 hO_24.2 rfl 2 (by decide) (hts (.fieldLink RX4 80 "HiddenMoves$Big" "below" "Z") (List.mem_cons_of_mem _ (List.mem_append_left _ (List.mem_append_left _ (List.mem_append_left _ (List.mem_of_getElem? (i := 2) rfl)))))) (fun _ h9 => h9) rfl (by decide +kernel) (hz_tZ (by decide)) (hz_fZ (by decide)) (Nat.le_of_ble_eq_true rfl) (cw_z0_2 _ _ _) dX4_findOddDivisor_16 (fun H locs hP hD hS => ?_)
  obtain ⟨z_25, hz_25⟩ : ∃ y : Nat → Nat → Int, y = cw_s z_22 (r y0 3) 2 0 := ⟨_, rfl⟩
  rw [← hz_25] at hP hD
  have hw := hw z_25 hz_25
  refine lv_aload_n hx hb dX4_findOddDivisor_19 rfl (lv_at hl 0 rfl) ?_
  refine cw_get (ci := 4) (v := .ref (r y0 3)) hx hb hts hin4 hown hK hP hO_20.1 hO_20.2 rfl 3 (by decide) (hts (.fieldLink RX4 27 "HiddenMoves$Ratio" "first" "LHiddenMoves$Big;") (List.mem_cons_of_mem _ (List.mem_append_left _ (List.mem_append_left _ (List.mem_append_left _ (List.mem_of_getElem? (i := 0) rfl)))))) (fun _ h9 => h9) rfl dX4_findOddDivisor_20 ?_
  refine lv_aload_n hx hb dX4_findOddDivisor_23 rfl (lv_at hl 0 rfl) ?_
  refine cw_get (ci := 4) (v := .ref (r y0 3)) hx hb hts hin4 hown hK hP hO_20.1 hO_20.2 rfl 3 (by decide) (hts (.fieldLink RX4 27 "HiddenMoves$Ratio" "first" "LHiddenMoves$Big;") (List.mem_cons_of_mem _ (List.mem_append_left _ (List.mem_append_left _ (List.mem_append_left _ (List.mem_of_getElem? (i := 0) rfl)))))) (fun _ h9 => h9) rfl dX4_findOddDivisor_24 ?_
  have hFc := cw_free hD hS hA
  obtain ⟨q9, hq9⟩ := cw_at (C := C) (z := z_25) (r := r) (A := A_23) hO_24.1 hO_24.2
  refine va_calli (va_runV (As := []) (rest := [.ref (r y0 3)]) ⟨hx, hb, hml, hown, hts⟩ (k_c0_lowZeros l D _ C L K z_25 r A_23 (r y0 3) _ hw) (cwV 0 hts gX4_findOddDivisor_X0_lowZeros rfl rfl rfl (by decide +kernel) ⟨Nat.le_of_ble_eq_true rfl, Nat.le_of_ble_eq_true rfl⟩) ⟨hm_blind, va_recv hK hP (ci := 0) (q0 := q9) rfl hq9, hm_pre hP hK hD hE⟩ rfl rfl hl.1 rfl (lv_room (Nat.le_of_ble_eq_true rfl)) dX4_findOddDivisor_27 ⟨Nat.le_of_ble_eq_true rfl, Nat.le_of_ble_eq_true rfl⟩) hS (fun q _ h => hFc q h) hFc (fun rv u t H1 locs ht hvm hw hB hz1 hk1 hS => ?_)
  obtain ⟨rv_26, _, _, _⟩ := u
  obtain ⟨hP, hK1, hD1⟩ := hB
  rw [ht] at hP
  obtain ⟨hrv, hw⟩ := hw
  subst hrv
  have hD := hD1.weaken (fun k q _ h => hFc q.1 h)
  have hP : va_P D vwCl (cw_w C L K z_25 r A_23) H1 := hP
  have hD : va_D Ad (cw_w C L K z_25 r A_23) := hD
  generalize H1 = H at hP hS ⊢
  refine W.eq (g2 := F0 m 30 ls [.int (hz_i rv_26), .ref (r y0 3)]) rfl ?_
  have hFc := cw_free hD hS hA
  obtain ⟨q9, hq9⟩ := cw_at (C := C) (z := z_25) (r := r) (A := A_23) hO_24.1 hO_24.2
  refine va_callv (va_runV (As := [.int (hz_i rv_26)]) (rest := []) ⟨hx, hb, hml, hown, hts⟩ (k_c0_shiftDown l D _ C L K z_25 r A_23 (r y0 3) rv_26 _ hw) (cwV 1 hts gX4_findOddDivisor_X0_shiftDown rfl rfl rfl (by decide +kernel) ⟨Nat.le_of_ble_eq_true rfl, Nat.le_of_ble_eq_true rfl⟩) ⟨hm_blind, va_recv hK hP (ci := 0) (q0 := q9) rfl hq9, hm_pre hP hK hD hE⟩ rfl rfl hl.1 rfl (lv_room (Nat.le_of_ble_eq_true rfl)) dX4_findOddDivisor_30 ⟨Nat.le_of_ble_eq_true rfl, Nat.le_of_ble_eq_true rfl⟩) hS (fun q _ h => hFc q h) hFc (fun u t H1 locs ht hvm hw hB hz1 hk1 hS => ?_)
  obtain ⟨rv_27, z_28, _, A_29⟩ := u
  obtain ⟨hP, hK1, hD1⟩ := hB
  rw [ht] at hP
  have hD := hD1.weaken (fun k q _ h => hFc q.1 h)
  have hP : va_P D vwCl (cw_w C L K z_28 r A_29) H1 := hP
  have hD : va_D Ad (cw_w C L K z_28 r A_29) := hD
  generalize H1 = H at hP hS ⊢
  refine W.eq (g2 := F0 m 33 ls []) rfl ?_
  refine lv_aload_n hx hb dX4_findOddDivisor_33 rfl (lv_at hl 0 rfl) ?_
  refine cw_get (ci := 4) (v := .ref (r y0 4)) hx hb hts hin4 hown hK hP hO_20.1 hO_20.2 rfl 4 (by decide) (hts (.fieldLink RX4 30 "HiddenMoves$Ratio" "second" "LHiddenMoves$Big;") (List.mem_cons_of_mem _ (List.mem_append_left _ (List.mem_append_left _ (List.mem_append_left _ (List.mem_of_getElem? (i := 3) rfl)))))) (fun _ h9 => h9) rfl dX4_findOddDivisor_34 ?_
  refine lv_aload_n hx hb dX4_findOddDivisor_37 rfl (lv_at hl 0 rfl) ?_
  refine cw_get (ci := 4) (v := .ref (r y0 1)) hx hb hts hin4 hown hK hP hO_20.1 hO_20.2 rfl 1 (by decide) (hts (.fieldLink RX4 20 "HiddenMoves$Ratio" "bottom" "LHiddenMoves$Big;") (List.mem_cons_of_mem _ (List.mem_append_left _ (List.mem_append_left _ (List.mem_append_left _ (List.mem_of_getElem? (i := 4) rfl)))))) (fun _ h9 => h9) rfl dX4_findOddDivisor_38 ?_
  obtain ⟨hO_33, hw⟩ := hw
  have hFc := cw_free hD hS hA
  obtain ⟨q9, hq9⟩ := cw_at (C := C) (z := z_28) (r := r) (A := A_29) hO_33.1 hO_33.2
  refine va_callv (va_runV (As := [.ref (r y0 1)]) (rest := []) ⟨hx, hb, hml, hown, hts⟩ (k_c0_copy l D _ C L K z_28 r A_29 (r y0 4) (r y0 1) _ hw) (cwV 1 hts gX4_findOddDivisor_X0_copy rfl rfl rfl (by decide +kernel) ⟨Nat.le_of_ble_eq_true rfl, Nat.le_of_ble_eq_true rfl⟩) ⟨hm_blind, va_recv hK hP (ci := 0) (q0 := q9) rfl hq9, hm_pre hP hK hD hE⟩ rfl rfl hl.1 rfl (lv_room (Nat.le_of_ble_eq_true rfl)) dX4_findOddDivisor_41 ⟨Nat.le_of_ble_eq_true rfl, Nat.le_of_ble_eq_true rfl⟩) hS (fun q _ h => hFc q h) hFc (fun u t H1 locs ht hvm hw hB hz1 hk1 hS => ?_)
  obtain ⟨rv_30, z_31, _, A_32⟩ := u
  obtain ⟨hP, hK1, hD1⟩ := hB
  rw [ht] at hP
  have hD := hD1.weaken (fun k q _ h => hFc q.1 h)
  have hP : va_P D vwCl (cw_w C L K z_31 r A_32) H1 := hP
  have hD : va_D Ad (cw_w C L K z_31 r A_32) := hD
  generalize H1 = H at hP hS ⊢
  refine W.eq (g2 := F0 m 44 ls []) rfl ?_
  refine lv_aload_n hx hb dX4_findOddDivisor_44 rfl (lv_at hl 0 rfl) ?_
  refine cw_get (ci := 4) (v := .ref (r y0 4)) hx hb hts hin4 hown hK hP hO_20.1 hO_20.2 rfl 4 (by decide) (hts (.fieldLink RX4 30 "HiddenMoves$Ratio" "second" "LHiddenMoves$Big;") (List.mem_cons_of_mem _ (List.mem_append_left _ (List.mem_append_left _ (List.mem_append_left _ (List.mem_of_getElem? (i := 3) rfl)))))) (fun _ h9 => h9) rfl dX4_findOddDivisor_45 ?_
  refine lv_aload_n hx hb dX4_findOddDivisor_48 rfl (lv_at hl 0 rfl) ?_
  refine cw_get (ci := 4) (v := .ref (r y0 4)) hx hb hts hin4 hown hK hP hO_20.1 hO_20.2 rfl 4 (by decide) (hts (.fieldLink RX4 30 "HiddenMoves$Ratio" "second" "LHiddenMoves$Big;") (List.mem_cons_of_mem _ (List.mem_append_left _ (List.mem_append_left _ (List.mem_append_left _ (List.mem_of_getElem? (i := 3) rfl)))))) (fun _ h9 => h9) rfl dX4_findOddDivisor_49 ?_
  have hFc := cw_free hD hS hA
  obtain ⟨q9, hq9⟩ := cw_at (C := C) (z := z_31) (r := r) (A := A_32) hO_33.1 hO_33.2
  refine va_calli (va_runV (As := []) (rest := [.ref (r y0 4)]) ⟨hx, hb, hml, hown, hts⟩ (k_c0_lowZeros l D _ C L K z_31 r A_32 (r y0 4) _ hw) (cwV 0 hts gX4_findOddDivisor_X0_lowZeros rfl rfl rfl (by decide +kernel) ⟨Nat.le_of_ble_eq_true rfl, Nat.le_of_ble_eq_true rfl⟩) ⟨hm_blind, va_recv hK hP (ci := 0) (q0 := q9) rfl hq9, hm_pre hP hK hD hE⟩ rfl rfl hl.1 rfl (lv_room (Nat.le_of_ble_eq_true rfl)) dX4_findOddDivisor_52 ⟨Nat.le_of_ble_eq_true rfl, Nat.le_of_ble_eq_true rfl⟩) hS (fun q _ h => hFc q h) hFc (fun rv u t H1 locs ht hvm hw hB hz1 hk1 hS => ?_)
  obtain ⟨rv_34, _, _, _⟩ := u
  obtain ⟨hP, hK1, hD1⟩ := hB
  rw [ht] at hP
  obtain ⟨hrv, hw⟩ := hw
  subst hrv
  have hD := hD1.weaken (fun k q _ h => hFc q.1 h)
  have hP : va_P D vwCl (cw_w C L K z_31 r A_32) H1 := hP
  have hD : va_D Ad (cw_w C L K z_31 r A_32) := hD
  generalize H1 = H at hP hS ⊢
  refine W.eq (g2 := F0 m 55 ls [.int (hz_i rv_34), .ref (r y0 4)]) rfl ?_
  have hFc := cw_free hD hS hA
  obtain ⟨q9, hq9⟩ := cw_at (C := C) (z := z_31) (r := r) (A := A_32) hO_33.1 hO_33.2
  refine va_callv (va_runV (As := [.int (hz_i rv_34)]) (rest := []) ⟨hx, hb, hml, hown, hts⟩ (k_c0_shiftDown l D _ C L K z_31 r A_32 (r y0 4) rv_34 _ hw) (cwV 1 hts gX4_findOddDivisor_X0_shiftDown rfl rfl rfl (by decide +kernel) ⟨Nat.le_of_ble_eq_true rfl, Nat.le_of_ble_eq_true rfl⟩) ⟨hm_blind, va_recv hK hP (ci := 0) (q0 := q9) rfl hq9, hm_pre hP hK hD hE⟩ rfl rfl hl.1 rfl (lv_room (Nat.le_of_ble_eq_true rfl)) dX4_findOddDivisor_55 ⟨Nat.le_of_ble_eq_true rfl, Nat.le_of_ble_eq_true rfl⟩) hS (fun q _ h => hFc q h) hFc (fun u t H1 locs ht hvm hw hB hz1 hk1 hS => ?_)
  obtain ⟨rv_35, z_36, _, A_37⟩ := u
  obtain ⟨hP, hK1, hD1⟩ := hB
  rw [ht] at hP
  have hD := hD1.weaken (fun k q _ h => hFc q.1 h)
  have hP : va_P D vwCl (cw_w C L K z_36 r A_37) H1 := hP
  have hD : va_D Ad (cw_w C L K z_36 r A_37) := hD
  generalize H1 = H at hP hS ⊢
  refine W.eq (g2 := F0 m 58 ls []) rfl ?_
  refine lv_iconst (v := hz_i 0) hx hb dX4_findOddDivisor_58 (by decide +kernel) ?_
  refine lv_istore_n (lv' := [(1, .int (hz_i 0)), (0, .ref y0)]) hx hb dX4_findOddDivisor_59 rfl hl (by decide) rfl (fun ls hl => ?_)
  exact L60 z_36 A_37 0 hw H locs ls hP hD hS (lv_sub hl [1, 0] rfl)

noncomputable def wp_c1_prepare_61 (L : List Nat) (K : Nat → cw_K) (z : Nat → Nat → Int) (r : Nat → Nat → Nat) (A : Nat → Nat → Int) (y0 : Nat) (x2 : Int) (x3 : Int) (Q : (Nat → Nat → Int) → (Nat → Nat → Int) → Prop) : Prop := ∀ P61 : (Nat → Nat → Int) → Int → Prop, (∀ (z : Nat → Nat → Int) (x3 : Int), hz_rI x3 ∧ ((4 ≤ x3 → Q z A) ∧ (¬ (4 ≤ x3) → cw_O L K 1 y0 ∧ ∀ x9_3 : Int, hz_rI x9_3 → x9_3 % 4294967296 = ((z y0 2) * (2 - (x2 * (z y0 2)))) % 4294967296 → ∀ z_4 : Nat → Nat → Int, z_4 = cw_s z y0 2 x9_3 → ∀ x3_5 : Int, x3_5 = x3 + 1 → P61 z_4 x3_5)) → P61 z x3) → P61 z x3
noncomputable def wp_c1_prepare_53 (L : List Nat) (K : Nat → cw_K) (z : Nat → Nat → Int) (r : Nat → Nat → Nat) (A : Nat → Nat → Int) (y0 : Nat) (t0 : Int) (Q : (Nat → Nat → Int) → (Nat → Nat → Int) → Prop) : Prop := cw_O L K 1 y0 ∧ ∀ z_7 : Nat → Nat → Int, z_7 = cw_s z y0 2 t0 → wp_c1_prepare_61 L K z_7 r A y0 t0 0  Q
noncomputable def wp_c1_prepare (L : List Nat) (K : Nat → cw_K) (z : Nat → Nat → Int) (r : Nat → Nat → Nat) (A : Nat → Nat → Int) (y0 : Nat) (y1 : Nat) (Q : (Nat → Nat → Int) → (Nat → Nat → Int) → Prop) : Prop := cw_O L K 1 y0 ∧ cw_O L K 0 (r y0 0) ∧ wp_c0_copy L K z r A (r y0 0) y1 (fun z_10 A_11 => wp_c0_lowZeros L K z_10 r A_11 (r y0 0) (fun rv_13 => ∀ z_14 : Nat → Nat → Int, z_14 = cw_s z_10 y0 1 rv_13 → wp_c0_shiftDown L K z_14 r A_11 (r y0 0) (z_14 y0 1) (fun z_16 A_17 => hz_rI (z_16 (r y0 0) 1) ∧ ((z_16 (r y0 0) 1 ≤ 0 → wp_c1_prepare_53 L K z_16 r A_17 y0 1  Q) ∧ (¬ (z_16 (r y0 0) 1 ≤ 0) → cw_A L K 0 (r (r y0 0) 0) ∧ ((0 : Int) ≤ 0 ∧ 0 < (cw_n K (r (r y0 0) 0) : Int)) ∧ wp_c1_prepare_53 L K z_16 r A_17 y0 (A_17 (r (r y0 0) 0) ((0 : Int).toNat))  Q)))))
set_option maxHeartbeats 4000000 in
set_option maxRecDepth 100000 in
theorem k_c1_prepare (l : Launch) (D : va_G) (sz : Nat) (C : Nat → ClassId) (L : List Nat) (K : Nat → cw_K) (z : Nat → Nat → Int) (r : Nat → Nat → Nat) (A : Nat → Nat → Int) (y0 : Nat) (y1 : Nat) (Q : (Nat → Nat → Int) → (Nat → Nat → Int) → Prop) (hw : wp_c1_prepare L K z r A y0 y1 Q) : Met l yX1_prepare wsX1_prepare ({ frames := 2, cells := 0, slots := 0, locals := 51 } : Room) (va_Pc [.ref y0, .ref y1] (hm_P D (cw_w C L K z r A) (cw_t C) sz)) (va_Qv (S := Int × (Nat → Nat → Int) × (Nat → Nat → Nat) × (Nat → Nat → Int)) (fun u => Q u.2.1 u.2.2.2) (fun u t => hm_B D (va_A (cw_w C L K z r A) sz) (cw_w C L K u.2.1 r u.2.2.2) (cw_t C) t) (va_A (cw_w C L K z r A) sz)) 0 0 (va_A (cw_w C L K z r A) sz) := by
  refine Met.ofW (cc := cX1_prepare) (maxL := 4) (ret := none) (by decide) rfl ?_
  intro p e s m args below meth c s₁ B hml hv
  obtain ⟨rfl, hsz, hP, hK, hD0, hE⟩ := hv
  have hx := B.exec
  have hb := B.bytes
  have hr := B.returns
  have hts := atoms_spec (ws := wsX1_prepare) B.pre
  have hown : s.vm.findClass RX1 = some m.cls := findClass_of_methodNamed B.named
  have hlocks := B.notSynchronized
  have hin0 : ∀ w ∈ u_ws RX0 TX0 3, w ∈ wsX1_prepare := fun w h => List.mem_cons_of_mem _ (List.mem_append_right _ (h))
  have hin1 : ∀ w ∈ u_ws RX1 TX1 3, w ∈ wsX1_prepare := fun w h => List.mem_cons_of_mem _ (List.mem_append_left _ (List.mem_append_right _ (h)))
  subst hsz
  have hD := hD0.self (sz := s.heap.size)
  generalize hAe : va_A (cw_w C L K z r A) s.heap.size = Ad at hD ⊢
  have hA : ∀ q : Nat, s.heap.size ≤ q → Ad q := fun q h => by rw [← hAe]; exact Or.inr h
  have hS : va_S Ad s.heap s.heap [] := va_S.rf
  have hl := lv_entry ([.ref y0, .ref y1]) (n := 4) (Nat.le_of_ble_eq_true rfl)
  rw [lg_entry_eq]
  generalize (lg_sl ([.ref y0, .ref y1]) ++ List.replicate (4 - (lg_sl ([.ref y0, .ref y1])).length) Slot.unset).toArray = ls at hl ⊢
  have hl : lv_has ls 4 [(0, .ref y0), (1, .ref y1)] := hl
  refine mw_Q (fun QQ hQQ => ?_)
  have hP0 := hP; have hD0 := hD; have hS0 := hS; have hl0 := hl; have hw0 := hw
  clear hP hD hS hl hw
  have L61 : ∀ (z : Nat → Nat → Int) (A : Nat → Nat → Int) (x2 : Int) (x3 : Int), wp_c1_prepare_61 L K z r A y0 x2 x3  Q → ∀ (H : Heap) (locs : List Loc) (ls : Array Slot), va_P D vwCl (cw_w C L K z r A) H → va_D Ad (cw_w C L K z r A) → va_S Ad s.heap H locs → lv_has ls 4 [(0, .ref y0), (2, .int (hz_i x2)), (3, .int (hz_i x3))] → W p l e (headSpec wsX1_prepare ({ frames := 2, cells := 0, slots := 0, locals := 51 } : Room)).room s m (List.toArray [.ref y0, .ref y1]) below meth c H locs 0 0 QQ (F0 m 61 ls []) := by
    intro z A x2 x3 hw
    obtain ⟨P61, hP61⟩ : ∃ P : (Nat → Nat → Int) → Int → Prop, ∀ (z : Nat → Nat → Int) (x3 : Int), P z x3 ↔ (∀ (H : Heap) (locs : List Loc) (ls : Array Slot), va_P D vwCl (cw_w C L K z r A) H → va_D Ad (cw_w C L K z r A) → va_S Ad s.heap H locs → lv_has ls 4 [(0, .ref y0), (2, .int (hz_i x2)), (3, .int (hz_i x3))] → W p l e (headSpec wsX1_prepare ({ frames := 2, cells := 0, slots := 0, locals := 51 } : Room)).room s m (List.toArray [.ref y0, .ref y1]) below meth c H locs 0 0 QQ (F0 m 61 ls [])) := ⟨fun (z : Nat → Nat → Int) (x3 : Int) => ∀ (H : Heap) (locs : List Loc) (ls : Array Slot), va_P D vwCl (cw_w C L K z r A) H → va_D Ad (cw_w C L K z r A) → va_S Ad s.heap H locs → lv_has ls 4 [(0, .ref y0), (2, .int (hz_i x2)), (3, .int (hz_i x3))] → W p l e (headSpec wsX1_prepare ({ frames := 2, cells := 0, slots := 0, locals := 51 } : Room)).room s m (List.toArray [.ref y0, .ref y1]) below meth c H locs 0 0 QQ (F0 m 61 ls []), fun _ _ => Iff.rfl⟩
    refine (hP61 z x3).mp (hw P61 ?_)
    intro z x3 hw
    refine (hP61 z x3).mpr ?_
    intro H locs ls hP hD hS hl
    refine lv_iload_n hx hb dX1_prepare_61 rfl (lv_at hl 2 rfl) ?_
    refine lv_iconst (v := hz_i 4) hx hb dX1_prepare_62 (by decide +kernel) ?_
    obtain ⟨h9a, hw⟩ := hw
    refine hz_icmp_ge (tgt := 89) hx hb dX1_prepare_63 (by decide) h9a ⟨by decide, by decide⟩ (fun c_1 => ?_) (fun c_1 => ?_)
    · have hw := hw.1 c_1
      subst hQQ
      subst hAe
      exact W.vret hx hb hr (fun t ht hW => ⟨⟨(0, z, r, A), rfl, hw, by rw [ht]; exact hP, va_K.moved hW.alike hK, hD⟩, hS.F ht⟩) hS.2.2 dX1_prepare_89
    · have hw := hw.2 c_1
      refine lv_aload_n hx hb dX1_prepare_66 rfl (lv_at hl 0 rfl) ?_
      refine lv_dup hx hb dX1_prepare_67 rfl ?_
      obtain ⟨hO_2, hw⟩ := hw
      refine cw_get (ci := 1) (v := .int (hz_i (z y0 2))) hx hb hts hin1 hown hK hP hO_2.1 hO_2.2 rfl 2 (by decide) (hts (.fieldLink RX1 24 "HiddenMoves$Divider" "inverse" "I") (List.mem_cons_of_mem _ (List.mem_append_left _ (List.mem_append_left _ (List.mem_append_left _ (List.mem_of_getElem? (i := 4) rfl)))))) (fun _ h9 => h9) rfl dX1_prepare_68 ?_
      refine lv_iconst (v := hz_i 2) hx hb dX1_prepare_71 (by decide +kernel) ?_
      refine lv_iload_n hx hb dX1_prepare_72 rfl (lv_at hl 1 rfl) ?_
      refine lv_aload_n hx hb dX1_prepare_73 rfl (lv_at hl 0 rfl) ?_
      refine cw_get (ci := 1) (v := .int (hz_i (z y0 2))) hx hb hts hin1 hown hK hP hO_2.1 hO_2.2 rfl 2 (by decide) (hts (.fieldLink RX1 24 "HiddenMoves$Divider" "inverse" "I") (List.mem_cons_of_mem _ (List.mem_append_left _ (List.mem_append_left _ (List.mem_append_left _ (List.mem_of_getElem? (i := 4) rfl)))))) (fun _ h9 => h9) rfl dX1_prepare_74 ?_
      refine hz_imul hx hb dX1_prepare_77 ?_
      refine hz_isub hx hb dX1_prepare_78 ?_
      refine hz_imul hx hb dX1_prepare_79 ?_
      refine cw_nri (fun x9_3 hx9_3a hx9_3b => ?_)
      have hw := hw x9_3 hx9_3a hx9_3b
      refine cw_putz (ci := 1) (ty := .int) (v := .int (hz_i x9_3)) (x := x9_3) hx hb hts hin1 tyX1 tyX1_ok nmX1 hown hK hP hD hS hO_2.1 hO_2.2 rfl 2 (by decide) (hts (.fieldLink RX1 24 "HiddenMoves$Divider" "inverse" "I") (List.mem_cons_of_mem _ (List.mem_append_left _ (List.mem_append_left _ (List.mem_append_left _ (List.mem_of_getElem? (i := 4) rfl)))))) (fun _ h9 => h9) rfl (by decide +kernel) rfl rfl (Nat.le_of_ble_eq_true rfl) (cw_z1_2 _ _ _) dX1_prepare_80 (fun H locs hP hD hS => ?_)
      obtain ⟨z_4, hz_4⟩ : ∃ y : Nat → Nat → Int, y = cw_s z y0 2 x9_3 := ⟨_, rfl⟩
      rw [← hz_4] at hP hD
      have hw := hw z_4 hz_4
      obtain ⟨x3_5, hx3_5⟩ : ∃ y : Int, y = x3 + 1 := ⟨_, rfl⟩
      have hw := hw x3_5 hx3_5
      refine lv_iinc (v := hz_i x3_5) (lv' := [(3, .int (hz_i x3_5)), (0, .ref y0), (2, .int (hz_i x2))]) hx hb dX1_prepare_83 hl (k := 2) rfl (by rw [hx3_5]; exact hz_i_add _ _) (by decide) rfl (fun ls hl => ?_)
      refine lv_goto (tgt := 61) hx hb dX1_prepare_86 (by decide) ?_
      exact (hP61 z_4 x3_5).mp hw H locs ls hP hD hS (lv_sub hl [1, 2, 0] rfl)
  have L53 : ∀ (z : Nat → Nat → Int) (A : Nat → Nat → Int) (t0 : Int), wp_c1_prepare_53 L K z r A y0 t0  Q → ∀ (H : Heap) (locs : List Loc) (ls : Array Slot), va_P D vwCl (cw_w C L K z r A) H → va_D Ad (cw_w C L K z r A) → va_S Ad s.heap H locs → lv_has ls 4 [(0, .ref y0)] → W p l e (headSpec wsX1_prepare ({ frames := 2, cells := 0, slots := 0, locals := 51 } : Room)).room s m (List.toArray [.ref y0, .ref y1]) below meth c H locs 0 0 QQ (F0 m 53 ls [.int (hz_i t0)]) := by
    intro z A t0 hw H locs ls hP hD hS hl
    refine lv_istore_n (lv' := [(2, .int (hz_i t0)), (0, .ref y0)]) hx hb dX1_prepare_53 rfl hl (by decide) rfl (fun ls hl => ?_)
    refine lv_aload_n hx hb dX1_prepare_54 rfl (lv_at hl 1 rfl) ?_
    refine lv_iload_n hx hb dX1_prepare_55 rfl (lv_at hl 0 rfl) ?_
    obtain ⟨hO_6, hw⟩ := hw
    refine cw_putz (ci := 1) (ty := .int) (v := .int (hz_i t0)) (x := t0) hx hb hts hin1 tyX1 tyX1_ok nmX1 hown hK hP hD hS hO_6.1 hO_6.2 rfl 2 (by decide) (hts (.fieldLink RX1 24 "HiddenMoves$Divider" "inverse" "I") (List.mem_cons_of_mem _ (List.mem_append_left _ (List.mem_append_left _ (List.mem_append_left _ (List.mem_of_getElem? (i := 4) rfl)))))) (fun _ h9 => h9) rfl (by decide +kernel) rfl rfl (Nat.le_of_ble_eq_true rfl) (cw_z1_2 _ _ _) dX1_prepare_56 (fun H locs hP hD hS => ?_)
    obtain ⟨z_7, hz_7⟩ : ∃ y : Nat → Nat → Int, y = cw_s z y0 2 t0 := ⟨_, rfl⟩
    rw [← hz_7] at hP hD
    have hw := hw z_7 hz_7
    refine lv_iconst (v := hz_i 0) hx hb dX1_prepare_59 (by decide +kernel) ?_
    refine lv_istore_n (lv' := [(3, .int (hz_i 0)), (2, .int (hz_i t0)), (0, .ref y0)]) hx hb dX1_prepare_60 rfl hl (by decide) rfl (fun ls hl => ?_)
    exact L61 z_7 A t0 0 hw H locs ls hP hD hS (lv_sub hl [2, 1, 0] rfl)
  have hP := hP0; have hD := hD0; have hS := hS0; have hl := hl0; have hw := hw0
  obtain ⟨H, hH⟩ : ∃ H : Heap, H = s.heap := ⟨_, rfl⟩
  obtain ⟨locs, hlocs⟩ : ∃ L : List Loc, L = [] := ⟨_, rfl⟩
  rw [← hH] at hP
  have hS : va_S Ad s.heap H locs := by rw [hH, hlocs]; exact hS
  refine mw_HL hH hlocs ?_
  refine lv_aload_n hx hb dX1_prepare_0 rfl (lv_at hl 0 rfl) ?_
  obtain ⟨hO_8, hw⟩ := hw
  refine cw_get (ci := 1) (v := .ref (r y0 0)) hx hb hts hin1 hown hK hP hO_8.1 hO_8.2 rfl 0 (by decide) (hts (.fieldLink RX1 14 "HiddenMoves$Divider" "odd" "LHiddenMoves$Big;") (List.mem_cons_of_mem _ (List.mem_append_left _ (List.mem_append_left _ (List.mem_append_left _ (List.mem_of_getElem? (i := 0) rfl)))))) (fun _ h9 => h9) rfl dX1_prepare_1 ?_
  refine lv_aload_n hx hb dX1_prepare_4 rfl (lv_at hl 1 rfl) ?_
  obtain ⟨hO_12, hw⟩ := hw
  have hFc := cw_free hD hS hA
  obtain ⟨q9, hq9⟩ := cw_at (C := C) (z := z) (r := r) (A := A) hO_12.1 hO_12.2
  refine va_callv (va_runV (As := [.ref y1]) (rest := []) ⟨hx, hb, hml, hown, hts⟩ (k_c0_copy l D _ C L K z r A (r y0 0) y1 _ hw) (cwV 1 hts gX1_prepare_X0_copy rfl rfl rfl (by decide +kernel) ⟨Nat.le_of_ble_eq_true rfl, Nat.le_of_ble_eq_true rfl⟩) ⟨hm_blind, va_recv hK hP (ci := 0) (q0 := q9) rfl hq9, hm_pre hP hK hD hE⟩ rfl rfl hl.1 rfl (lv_room (Nat.le_of_ble_eq_true rfl)) dX1_prepare_5 ⟨Nat.le_of_ble_eq_true rfl, Nat.le_of_ble_eq_true rfl⟩) hS (fun q _ h => hFc q h) hFc (fun u t H1 locs ht hvm hw hB hz1 hk1 hS => ?_)
  obtain ⟨rv_9, z_10, _, A_11⟩ := u
  obtain ⟨hP, hK1, hD1⟩ := hB
  rw [ht] at hP
  have hD := hD1.weaken (fun k q _ h => hFc q.1 h)
  have hP : va_P D vwCl (cw_w C L K z_10 r A_11) H1 := hP
  have hD : va_D Ad (cw_w C L K z_10 r A_11) := hD
  generalize H1 = H at hP hS ⊢
  refine W.eq (g2 := F0 m 8 ls []) rfl ?_
  refine lv_aload_n hx hb dX1_prepare_8 rfl (lv_at hl 0 rfl) ?_
  refine lv_aload_n hx hb dX1_prepare_9 rfl (lv_at hl 0 rfl) ?_
  refine cw_get (ci := 1) (v := .ref (r y0 0)) hx hb hts hin1 hown hK hP hO_8.1 hO_8.2 rfl 0 (by decide) (hts (.fieldLink RX1 14 "HiddenMoves$Divider" "odd" "LHiddenMoves$Big;") (List.mem_cons_of_mem _ (List.mem_append_left _ (List.mem_append_left _ (List.mem_append_left _ (List.mem_of_getElem? (i := 0) rfl)))))) (fun _ h9 => h9) rfl dX1_prepare_10 ?_
  have hFc := cw_free hD hS hA
  obtain ⟨q9, hq9⟩ := cw_at (C := C) (z := z_10) (r := r) (A := A_11) hO_12.1 hO_12.2
  refine va_calli (va_runV (As := []) (rest := [.ref y0]) ⟨hx, hb, hml, hown, hts⟩ (k_c0_lowZeros l D _ C L K z_10 r A_11 (r y0 0) _ hw) (cwV 0 hts gX1_prepare_X0_lowZeros rfl rfl rfl (by decide +kernel) ⟨Nat.le_of_ble_eq_true rfl, Nat.le_of_ble_eq_true rfl⟩) ⟨hm_blind, va_recv hK hP (ci := 0) (q0 := q9) rfl hq9, hm_pre hP hK hD hE⟩ rfl rfl hl.1 rfl (lv_room (Nat.le_of_ble_eq_true rfl)) dX1_prepare_13 ⟨Nat.le_of_ble_eq_true rfl, Nat.le_of_ble_eq_true rfl⟩) hS (fun q _ h => hFc q h) hFc (fun rv u t H1 locs ht hvm hw hB hz1 hk1 hS => ?_)
  obtain ⟨rv_13, _, _, _⟩ := u
  obtain ⟨hP, hK1, hD1⟩ := hB
  rw [ht] at hP
  obtain ⟨hrv, hw⟩ := hw
  subst hrv
  have hD := hD1.weaken (fun k q _ h => hFc q.1 h)
  have hP : va_P D vwCl (cw_w C L K z_10 r A_11) H1 := hP
  have hD : va_D Ad (cw_w C L K z_10 r A_11) := hD
  generalize H1 = H at hP hS ⊢
  refine W.eq (g2 := F0 m 16 ls [.int (hz_i rv_13), .ref y0]) rfl ?_
  refine cw_putz (ci := 1) (ty := .int) (v := .int (hz_i rv_13)) (x := rv_13) hx hb hts hin1 tyX1 tyX1_ok nmX1 hown hK hP hD hS hO_8.1 hO_8.2 rfl 1 (by decide) (hts (.fieldLink RX1 20 "HiddenMoves$Divider" "twos" "I") (List.mem_cons_of_mem _ (List.mem_append_left _ (List.mem_append_left _ (List.mem_append_left _ (List.mem_of_getElem? (i := 1) rfl)))))) (fun _ h9 => h9) rfl (by decide +kernel) rfl rfl (Nat.le_of_ble_eq_true rfl) (cw_z1_1 _ _ _) dX1_prepare_16 (fun H locs hP hD hS => ?_)
  obtain ⟨z_14, hz_14⟩ : ∃ y : Nat → Nat → Int, y = cw_s z_10 y0 1 rv_13 := ⟨_, rfl⟩
  rw [← hz_14] at hP hD
  have hw := hw z_14 hz_14
  refine lv_aload_n hx hb dX1_prepare_19 rfl (lv_at hl 0 rfl) ?_
  refine cw_get (ci := 1) (v := .ref (r y0 0)) hx hb hts hin1 hown hK hP hO_8.1 hO_8.2 rfl 0 (by decide) (hts (.fieldLink RX1 14 "HiddenMoves$Divider" "odd" "LHiddenMoves$Big;") (List.mem_cons_of_mem _ (List.mem_append_left _ (List.mem_append_left _ (List.mem_append_left _ (List.mem_of_getElem? (i := 0) rfl)))))) (fun _ h9 => h9) rfl dX1_prepare_20 ?_
  refine lv_aload_n hx hb dX1_prepare_23 rfl (lv_at hl 0 rfl) ?_
  refine cw_get (ci := 1) (v := .int (hz_i (z_14 y0 1))) hx hb hts hin1 hown hK hP hO_8.1 hO_8.2 rfl 1 (by decide) (hts (.fieldLink RX1 20 "HiddenMoves$Divider" "twos" "I") (List.mem_cons_of_mem _ (List.mem_append_left _ (List.mem_append_left _ (List.mem_append_left _ (List.mem_of_getElem? (i := 1) rfl)))))) (fun _ h9 => h9) rfl dX1_prepare_24 ?_
  have hFc := cw_free hD hS hA
  obtain ⟨q9, hq9⟩ := cw_at (C := C) (z := z_14) (r := r) (A := A_11) hO_12.1 hO_12.2
  refine va_callv (va_runV (As := [.int (hz_i (z_14 y0 1))]) (rest := []) ⟨hx, hb, hml, hown, hts⟩ (k_c0_shiftDown l D _ C L K z_14 r A_11 (r y0 0) (z_14 y0 1) _ hw) (cwV 1 hts gX1_prepare_X0_shiftDown rfl rfl rfl (by decide +kernel) ⟨Nat.le_of_ble_eq_true rfl, Nat.le_of_ble_eq_true rfl⟩) ⟨hm_blind, va_recv hK hP (ci := 0) (q0 := q9) rfl hq9, hm_pre hP hK hD hE⟩ rfl rfl hl.1 rfl (lv_room (Nat.le_of_ble_eq_true rfl)) dX1_prepare_27 ⟨Nat.le_of_ble_eq_true rfl, Nat.le_of_ble_eq_true rfl⟩) hS (fun q _ h => hFc q h) hFc (fun u t H1 locs ht hvm hw hB hz1 hk1 hS => ?_)
  obtain ⟨rv_15, z_16, _, A_17⟩ := u
  obtain ⟨hP, hK1, hD1⟩ := hB
  rw [ht] at hP
  have hD := hD1.weaken (fun k q _ h => hFc q.1 h)
  have hP : va_P D vwCl (cw_w C L K z_16 r A_17) H1 := hP
  have hD : va_D Ad (cw_w C L K z_16 r A_17) := hD
  generalize H1 = H at hP hS ⊢
  refine W.eq (g2 := F0 m 30 ls []) rfl ?_
  refine lv_aload_n hx hb dX1_prepare_30 rfl (lv_at hl 0 rfl) ?_
  refine cw_get (ci := 1) (v := .ref (r y0 0)) hx hb hts hin1 hown hK hP hO_8.1 hO_8.2 rfl 0 (by decide) (hts (.fieldLink RX1 14 "HiddenMoves$Divider" "odd" "LHiddenMoves$Big;") (List.mem_cons_of_mem _ (List.mem_append_left _ (List.mem_append_left _ (List.mem_append_left _ (List.mem_of_getElem? (i := 0) rfl)))))) (fun _ h9 => h9) rfl dX1_prepare_31 ?_
  refine cw_get (ci := 0) (v := .int (hz_i (z_16 (r y0 0) 1))) hx hb hts hin0 hown hK hP hO_12.1 hO_12.2 rfl 1 (by decide) (hts (.fieldLink RX1 38 "HiddenMoves$Big" "length" "I") (List.mem_cons_of_mem _ (List.mem_append_left _ (List.mem_append_left _ (List.mem_append_left _ (List.mem_of_getElem? (i := 2) rfl)))))) (fun _ h9 => h9) rfl dX1_prepare_34 ?_
  obtain ⟨h9a, hw⟩ := hw
  refine hz_if_le (tgt := 52) hx hb dX1_prepare_37 (by decide) h9a (fun c_18 => ?_) (fun c_18 => ?_)
  · have hw := hw.1 c_18
    refine lv_iconst (v := hz_i 1) hx hb dX1_prepare_52 (by decide +kernel) ?_
    exact L53 z_16 A_17 1 hw H locs ls hP hD hS (lv_sub hl [0] rfl)
  · have hw := hw.2 c_18
    refine lv_aload_n hx hb dX1_prepare_40 rfl (lv_at hl 0 rfl) ?_
    refine cw_get (ci := 1) (v := .ref (r y0 0)) hx hb hts hin1 hown hK hP hO_8.1 hO_8.2 rfl 0 (by decide) (hts (.fieldLink RX1 14 "HiddenMoves$Divider" "odd" "LHiddenMoves$Big;") (List.mem_cons_of_mem _ (List.mem_append_left _ (List.mem_append_left _ (List.mem_append_left _ (List.mem_of_getElem? (i := 0) rfl)))))) (fun _ h9 => h9) rfl dX1_prepare_41 ?_
    refine cw_get (ci := 0) (v := .ref (r (r y0 0) 0)) hx hb hts hin0 hown hK hP hO_12.1 hO_12.2 rfl 0 (by decide) (hts (.fieldLink RX1 41 "HiddenMoves$Big" "digits" "[I") (List.mem_cons_of_mem _ (List.mem_append_left _ (List.mem_append_left _ (List.mem_append_left _ (List.mem_of_getElem? (i := 3) rfl)))))) (fun _ h9 => h9) rfl dX1_prepare_44 ?_
    refine lv_iconst (v := hz_i 0) hx hb dX1_prepare_47 (by decide +kernel) ?_
    obtain ⟨hO_19, hw⟩ := hw
    obtain ⟨h9i, hw⟩ := hw
    refine cw_ild hx hb hK hP hO_19.1 hO_19.2.2 h9i hO_19.2.1 dX1_prepare_48 ?_
    refine lv_goto (tgt := 53) hx hb dX1_prepare_49 (by decide) ?_
    exact L53 z_16 A_17 (A_17 (r (r y0 0) 0) ((0 : Int).toNat)) hw H locs ls hP hD hS (lv_sub hl [0] rfl)

noncomputable def wp_c1_takeMultiple_167 (L : List Nat) (K : Nat → cw_K) (z : Nat → Nat → Int) (r : Nat → Nat → Nat) (A : Nat → Nat → Int) (Q : (Nat → Nat → Int) → Prop) : Prop := Q A
noncomputable def wp_c1_takeMultiple_159 (L : List Nat) (K : Nat → cw_K) (z : Nat → Nat → Int) (r : Nat → Nat → Nat) (A : Nat → Nat → Int) (y1 : Nat) (y5 : Int) (x9 : Int) (t0 : Int) (P112 : (Nat → Nat → Int) → Int → Int → Prop) (Q : (Nat → Nat → Int) → Prop) : Prop := ∀ x9_1 : Int, x9_1 = x9 + 1 → P112 A t0 x9_1
noncomputable def wp_c1_takeMultiple_112 (L : List Nat) (K : Nat → cw_K) (z : Nat → Nat → Int) (r : Nat → Nat → Nat) (A : Nat → Nat → Int) (y1 : Nat) (y5 : Int) (x6 : Int) (x9 : Int) (Q : (Nat → Nat → Int) → Prop) : Prop := ∀ P112 : (Nat → Nat → Int) → Int → Int → Prop, (∀ (A : Nat → Nat → Int) (x6 : Int) (x9 : Int), hz_rI x9 ∧ hz_rI y5 ∧ ((y5 ≤ x9 → wp_c1_takeMultiple_167 L K z r A  Q) ∧ (¬ (y5 ≤ x9) → hz_rL x6 ∧ ((x6 = 0 → wp_c1_takeMultiple_167 L K z r A  Q) ∧ (¬ (x6 = 0) → cw_A L K 0 y1 ∧ ((0 : Int) ≤ x9 ∧ x9 < (cw_n K y1 : Int)) ∧ hz_rI (A y1 (x9.toNat)) ∧ ∀ x9_5 : Int, x9_5 = (A y1 (x9.toNat)) % 4294967296 → ∀ x10_6 : Int, x10_6 = x9_5 - x6 → ∀ x9_7 : Int, hz_rI x9_7 → x9_7 % 4294967296 = x10_6 % 4294967296 → ((0 : Int) ≤ x9 ∧ x9 < (cw_n K y1 : Int)) ∧ ∀ A_8 : Nat → Nat → Int, A_8 = hz_s A y1 x9 x9_7 → hz_rL x10_6 ∧ ((0 ≤ x10_6 → wp_c1_takeMultiple_159 L K z r A_8 y1 y5 x9 0 P112 Q) ∧ (¬ (0 ≤ x10_6) → wp_c1_takeMultiple_159 L K z r A_8 y1 y5 x9 1 P112 Q)))))) → P112 A x6 x9) → P112 A x6 x9
noncomputable def wp_c1_takeMultiple_98 (L : List Nat) (K : Nat → cw_K) (z : Nat → Nat → Int) (r : Nat → Nat → Nat) (A : Nat → Nat → Int) (y0 : Nat) (y1 : Nat) (y2 : Int) (y4 : Int) (y5 : Int) (x8 : Int) (x9 : Int) (t0 : Int) (t1 : Int) (P24 : (Nat → Nat → Int) → Int → Int → Prop) (Q : (Nat → Nat → Int) → Prop) : Prop := hz_rI t0 ∧ ∀ x6_10 : Int, x6_10 = t1 + t0 → ∀ x9_11 : Int, x9_11 = x9 + 1 → P24 A x6_10 x9_11
noncomputable def wp_c1_takeMultiple_24 (L : List Nat) (K : Nat → cw_K) (z : Nat → Nat → Int) (r : Nat → Nat → Nat) (A : Nat → Nat → Int) (y0 : Nat) (y1 : Nat) (y2 : Int) (y4 : Int) (y5 : Int) (x6 : Int) (x8 : Int) (x9 : Int) (Q : (Nat → Nat → Int) → Prop) : Prop := ∀ P24 : (Nat → Nat → Int) → Int → Int → Prop, (∀ (A : Nat → Nat → Int) (x6 : Int) (x9 : Int), hz_rI x9 ∧ hz_rI x8 ∧ ((x8 ≤ x9 → wp_c1_takeMultiple_112 L K z r A y1 y5 x6 x8  Q) ∧ (¬ (x8 ≤ x9) → cw_O L K 1 y0 ∧ cw_O L K 0 (r y0 0) ∧ cw_A L K 0 (r (r y0 0) 0) ∧ ((0 : Int) ≤ x9 - y4 ∧ x9 - y4 < (cw_n K (r (r y0 0) 0) : Int)) ∧ hz_rI (A (r (r y0 0) 0) ((x9 - y4).toNat)) ∧ ∀ x9_16 : Int, x9_16 = (A (r (r y0 0) 0) ((x9 - y4).toNat)) % 4294967296 → ∀ x10_17 : Int, x10_17 = (y2 * x9_16) + x6 → cw_A L K 0 y1 ∧ ((0 : Int) ≤ x9 ∧ x9 < (cw_n K y1 : Int)) ∧ hz_rI (A y1 (x9.toNat)) ∧ ∀ x9_19 : Int, x9_19 = (A y1 (x9.toNat)) % 4294967296 → ∀ x9_20 : Int, x9_20 = x10_17 % 4294967296 → ∀ x12_21 : Int, x12_21 = x9_19 - x9_20 → ∀ x9_22 : Int, hz_rI x9_22 → x9_22 % 4294967296 = x12_21 % 4294967296 → ((0 : Int) ≤ x9 ∧ x9 < (cw_n K y1 : Int)) ∧ ∀ A_23 : Nat → Nat → Int, A_23 = hz_s A y1 x9 x9_22 → ∀ x9_24 : Int, x9_24 = x10_17 % 18446744073709551616 / 4294967296 → hz_rL x12_21 ∧ ((0 ≤ x12_21 → wp_c1_takeMultiple_98 L K z r A_23 y0 y1 y2 y4 y5 x8 x9 0 x9_24 P24 Q) ∧ (¬ (0 ≤ x12_21) → wp_c1_takeMultiple_98 L K z r A_23 y0 y1 y2 y4 y5 x8 x9 1 x9_24 P24 Q)))) → P24 A x6 x9) → P24 A x6 x9
noncomputable def wp_c1_takeMultiple (L : List Nat) (K : Nat → cw_K) (z : Nat → Nat → Int) (r : Nat → Nat → Nat) (A : Nat → Nat → Int) (y0 : Nat) (y1 : Nat) (y2 : Int) (y4 : Int) (y5 : Int) (Q : (Nat → Nat → Int) → Prop) : Prop := cw_O L K 1 y0 ∧ cw_O L K 0 (r y0 0) ∧ hz_rI (y4 + (z (r y0 0) 1)) ∧ hz_rI y5 ∧ ∀ x9_28 : Int, x9_28 = min (y4 + (z (r y0 0) 1)) y5 → wp_c1_takeMultiple_24 L K z r A y0 y1 y2 y4 y5 0 x9_28 y4  Q
set_option maxHeartbeats 4000000 in
set_option maxRecDepth 100000 in
theorem k_c1_takeMultiple (l : Launch) (D : va_G) (sz : Nat) (C : Nat → ClassId) (L : List Nat) (K : Nat → cw_K) (z : Nat → Nat → Int) (r : Nat → Nat → Nat) (A : Nat → Nat → Int) (y0 : Nat) (y1 : Nat) (y2 : Int) (y4 : Int) (y5 : Int) (Q : (Nat → Nat → Int) → Prop) (hw : wp_c1_takeMultiple L K z r A y0 y1 y2 y4 y5 Q) : Met l yX1_takeMultiple wsX1_takeMultiple ({ frames := 1, cells := 0, slots := 0, locals := 20 } : Room) (va_Pc [.ref y0, .ref y1, .long (hz_l y2), .int (hz_i y4), .int (hz_i y5)] (hm_P D (cw_w C L K z r A) (cw_t C) sz)) (va_Qv (S := Int × (Nat → Nat → Int) × (Nat → Nat → Nat) × (Nat → Nat → Int)) (fun u => Q u.2.2.2) (fun u t => hm_B D (va_A (cw_w C L K z r A) sz) (cw_w C L K z r u.2.2.2) (cw_t C) t) (va_A (cw_w C L K z r A) sz)) 0 0 (va_A (cw_w C L K z r A) sz) := by
  refine Met.ofW (cc := cX1_takeMultiple) (maxL := 14) (ret := none) (by decide) rfl ?_
  intro p e s m args below meth c s₁ B hml hv
  obtain ⟨rfl, hsz, hP, hK, hD0, hE⟩ := hv
  have hx := B.exec
  have hb := B.bytes
  have hr := B.returns
  have hts := atoms_spec (ws := wsX1_takeMultiple) B.pre
  have hown : s.vm.findClass RX1 = some m.cls := findClass_of_methodNamed B.named
  have hlocks := B.notSynchronized
  have hin0 : ∀ w ∈ u_ws RX0 TX0 3, w ∈ wsX1_takeMultiple := fun w h => List.mem_cons_of_mem _ (List.mem_append_right _ (h))
  have hin1 : ∀ w ∈ u_ws RX1 TX1 3, w ∈ wsX1_takeMultiple := fun w h => List.mem_cons_of_mem _ (List.mem_append_left _ (List.mem_append_right _ (h)))
  subst hsz
  have hD := hD0.self (sz := s.heap.size)
  generalize hAe : va_A (cw_w C L K z r A) s.heap.size = Ad at hD ⊢
  have hA : ∀ q : Nat, s.heap.size ≤ q → Ad q := fun q h => by rw [← hAe]; exact Or.inr h
  have hS : va_S Ad s.heap s.heap [] := va_S.rf
  have hl := lv_entry ([.ref y0, .ref y1, .long (hz_l y2), .int (hz_i y4), .int (hz_i y5)]) (n := 14) (Nat.le_of_ble_eq_true rfl)
  rw [lg_entry_eq]
  generalize (lg_sl ([.ref y0, .ref y1, .long (hz_l y2), .int (hz_i y4), .int (hz_i y5)]) ++ List.replicate (14 - (lg_sl ([.ref y0, .ref y1, .long (hz_l y2), .int (hz_i y4), .int (hz_i y5)])).length) Slot.unset).toArray = ls at hl ⊢
  have hl : lv_has ls 14 [(0, .ref y0), (1, .ref y1), (2, .long (hz_l y2)), (4, .int (hz_i y4)), (5, .int (hz_i y5))] := hl
  refine mw_Q (fun QQ hQQ => ?_)
  have hP0 := hP; have hD0 := hD; have hS0 := hS; have hl0 := hl; have hw0 := hw
  clear hP hD hS hl hw
  have L167 : ∀ (A : Nat → Nat → Int), wp_c1_takeMultiple_167 L K z r A  Q → ∀ (H : Heap) (locs : List Loc) (ls : Array Slot), va_P D vwCl (cw_w C L K z r A) H → va_D Ad (cw_w C L K z r A) → va_S Ad s.heap H locs → lv_has ls 14 [] → W p l e (headSpec wsX1_takeMultiple ({ frames := 1, cells := 0, slots := 0, locals := 20 } : Room)).room s m (List.toArray [.ref y0, .ref y1, .long (hz_l y2), .int (hz_i y4), .int (hz_i y5)]) below meth c H locs 0 0 QQ (F0 m 167 ls []) := by
    intro A hw H locs ls hP hD hS hl
    subst hQQ
    subst hAe
    exact W.vret hx hb hr (fun t ht hW => ⟨⟨(0, z, r, A), rfl, hw, by rw [ht]; exact hP, va_K.moved hW.alike hK, hD⟩, hS.F ht⟩) hS.2.2 dX1_takeMultiple_167
  have L112 : ∀ (A : Nat → Nat → Int) (x6 : Int) (x9 : Int), wp_c1_takeMultiple_112 L K z r A y1 y5 x6 x9  Q → ∀ (H : Heap) (locs : List Loc) (ls : Array Slot), va_P D vwCl (cw_w C L K z r A) H → va_D Ad (cw_w C L K z r A) → va_S Ad s.heap H locs → lv_has ls 14 [(1, .ref y1), (5, .int (hz_i y5)), (6, .long (hz_l x6)), (9, .int (hz_i x9))] → W p l e (headSpec wsX1_takeMultiple ({ frames := 1, cells := 0, slots := 0, locals := 20 } : Room)).room s m (List.toArray [.ref y0, .ref y1, .long (hz_l y2), .int (hz_i y4), .int (hz_i y5)]) below meth c H locs 0 0 QQ (F0 m 112 ls []) := by
    intro A x6 x9 hw
    obtain ⟨P112, hP112⟩ : ∃ P : (Nat → Nat → Int) → Int → Int → Prop, ∀ (A : Nat → Nat → Int) (x6 : Int) (x9 : Int), P A x6 x9 ↔ (∀ (H : Heap) (locs : List Loc) (ls : Array Slot), va_P D vwCl (cw_w C L K z r A) H → va_D Ad (cw_w C L K z r A) → va_S Ad s.heap H locs → lv_has ls 14 [(1, .ref y1), (5, .int (hz_i y5)), (6, .long (hz_l x6)), (9, .int (hz_i x9))] → W p l e (headSpec wsX1_takeMultiple ({ frames := 1, cells := 0, slots := 0, locals := 20 } : Room)).room s m (List.toArray [.ref y0, .ref y1, .long (hz_l y2), .int (hz_i y4), .int (hz_i y5)]) below meth c H locs 0 0 QQ (F0 m 112 ls [])) := ⟨fun (A : Nat → Nat → Int) (x6 : Int) (x9 : Int) => ∀ (H : Heap) (locs : List Loc) (ls : Array Slot), va_P D vwCl (cw_w C L K z r A) H → va_D Ad (cw_w C L K z r A) → va_S Ad s.heap H locs → lv_has ls 14 [(1, .ref y1), (5, .int (hz_i y5)), (6, .long (hz_l x6)), (9, .int (hz_i x9))] → W p l e (headSpec wsX1_takeMultiple ({ frames := 1, cells := 0, slots := 0, locals := 20 } : Room)).room s m (List.toArray [.ref y0, .ref y1, .long (hz_l y2), .int (hz_i y4), .int (hz_i y5)]) below meth c H locs 0 0 QQ (F0 m 112 ls []), fun _ _ _ => Iff.rfl⟩
    refine (hP112 A x6 x9).mp (hw P112 ?_)
    intro A x6 x9 hw
    refine (hP112 A x6 x9).mpr ?_
    intro H locs ls hP hD hS hl
    have L159 : ∀ (A : Nat → Nat → Int) (x9 : Int) (t0 : Int), wp_c1_takeMultiple_159 L K z r A y1 y5 x9 t0 P112 Q → ∀ (H : Heap) (locs : List Loc) (ls : Array Slot), va_P D vwCl (cw_w C L K z r A) H → va_D Ad (cw_w C L K z r A) → va_S Ad s.heap H locs → lv_has ls 14 [(1, .ref y1), (5, .int (hz_i y5)), (9, .int (hz_i x9))] → W p l e (headSpec wsX1_takeMultiple ({ frames := 1, cells := 0, slots := 0, locals := 20 } : Room)).room s m (List.toArray [.ref y0, .ref y1, .long (hz_l y2), .int (hz_i y4), .int (hz_i y5)]) below meth c H locs 0 0 QQ (F0 m 159 ls [.long (hz_l t0)]) := by
      intro A x9 t0 hw H locs ls hP hD hS hl
      refine lv_lstore (lv' := [(6, .long (hz_l t0)), (1, .ref y1), (5, .int (hz_i y5)), (9, .int (hz_i x9))]) hx hb dX1_takeMultiple_159 hl (by decide) rfl (fun ls hl => ?_)
      obtain ⟨x9_1, hx9_1⟩ : ∃ y : Int, y = x9 + 1 := ⟨_, rfl⟩
      have hw := hw x9_1 hx9_1
      refine lv_iinc (v := hz_i x9_1) (lv' := [(9, .int (hz_i x9_1)), (6, .long (hz_l t0)), (1, .ref y1), (5, .int (hz_i y5))]) hx hb dX1_takeMultiple_161 hl (k := 3) rfl (by rw [hx9_1]; exact hz_i_add _ _) (by decide) rfl (fun ls hl => ?_)
      refine lv_goto (tgt := 112) hx hb dX1_takeMultiple_164 (by decide) ?_
      exact (hP112 A t0 x9_1).mp hw H locs ls hP hD hS (lv_sub hl [2, 3, 1, 0] rfl)
    refine lv_iload hx hb dX1_takeMultiple_112 (lv_at hl 3 rfl) ?_
    refine lv_iload hx hb dX1_takeMultiple_114 (lv_at hl 1 rfl) ?_
    obtain ⟨h9a, hw⟩ := hw
    obtain ⟨h9b, hw⟩ := hw
    refine hz_icmp_ge (tgt := 167) hx hb dX1_takeMultiple_116 (by decide) h9a h9b (fun c_2 => ?_) (fun c_2 => ?_)
    · have hw := hw.1 c_2
      exact L167 A hw H locs ls hP hD hS (lv_sub hl [] rfl)
    · have hw := hw.2 c_2
      refine lv_lload hx hb dX1_takeMultiple_119 (lv_at hl 2 rfl) ?_
      refine lv_lconst (v := hz_l 0) hx hb dX1_takeMultiple_121 (by decide +kernel) ?_
      obtain ⟨h9a, hw⟩ := hw
      refine hz_lcmp_eq (tgt := 167) hx hb dX1_takeMultiple_122 dX1_takeMultiple_123 (by decide) h9a ⟨by decide, by decide⟩ (fun c_3 => ?_) (fun c_3 => ?_)
      · have hw := hw.1 c_3
        exact L167 A hw H locs ls hP hD hS (lv_sub hl [] rfl)
      · have hw := hw.2 c_3
        refine lv_aload_n hx hb dX1_takeMultiple_126 rfl (lv_at hl 0 rfl) ?_
        refine lv_iload hx hb dX1_takeMultiple_127 (lv_at hl 3 rfl) ?_
        obtain ⟨hO_4, hw⟩ := hw
        obtain ⟨h9i, hw⟩ := hw
        refine cw_ild hx hb hK hP hO_4.1 hO_4.2.2 h9i hO_4.2.1 dX1_takeMultiple_129 ?_
        obtain ⟨h9a, hw⟩ := hw
        refine hz_wi2l hx hb dX1_takeMultiple_130 h9a ?_
        refine lv_ldc2 hx hb hown (hts (.constantLong RX1 55 (4294967295)) (List.mem_cons_of_mem _ (List.mem_append_left _ (List.mem_append_left _ (List.mem_of_getElem? (i := 7) rfl))))) dX1_takeMultiple_131 ?_
        refine hz_asl (b := 4294967295) (by decide +kernel) ?_
        refine cw_land (P := 4294967296) hx hb 32 dX1_takeMultiple_134 (by decide) (by decide +kernel) (by decide +kernel) (fun x9_5 hx9_5a => ?_)
        have hw := hw x9_5 hx9_5a
        refine lv_lload hx hb dX1_takeMultiple_135 (lv_at hl 2 rfl) ?_
        refine hz_lsub hx hb dX1_takeMultiple_137 ?_
        refine hz_topl (fun x10_6 hx10_6 => ?_)
        have hw := hw x10_6 hx10_6
        refine lv_lstore (lv' := [(10, .long (hz_l x10_6)), (1, .ref y1), (5, .int (hz_i y5)), (6, .long (hz_l x6)), (9, .int (hz_i x9))]) hx hb dX1_takeMultiple_138 hl (by decide) rfl (fun ls hl => ?_)
        refine lv_aload_n hx hb dX1_takeMultiple_140 rfl (lv_at hl 1 rfl) ?_
        refine lv_iload hx hb dX1_takeMultiple_141 (lv_at hl 4 rfl) ?_
        refine lv_lload hx hb dX1_takeMultiple_143 (lv_at hl 0 rfl) ?_
        refine cw_l2i hx hb dX1_takeMultiple_145 (fun x9_7 hx9_7a hx9_7b => ?_)
        have hw := hw x9_7 hx9_7a hx9_7b
        obtain ⟨h9i, hw⟩ := hw
        refine cw_ist (v := x9_7) hx hb hK hP hD hS hO_4.1 hO_4.2.2 h9i hO_4.2.1 dX1_takeMultiple_146 (fun H locs hP hD hS => ?_)
        obtain ⟨A_8, hA_8⟩ : ∃ y : Nat → Nat → Int, y = hz_s A y1 x9 x9_7 := ⟨_, rfl⟩
        rw [← hA_8] at hP hD
        have hw := hw A_8 hA_8
        refine lv_lload hx hb dX1_takeMultiple_147 (lv_at hl 0 rfl) ?_
        refine lv_lconst (v := hz_l 0) hx hb dX1_takeMultiple_149 (by decide +kernel) ?_
        obtain ⟨h9a, hw⟩ := hw
        refine hz_lcmp_ge (tgt := 158) hx hb dX1_takeMultiple_150 dX1_takeMultiple_151 (by decide) h9a ⟨by decide, by decide⟩ (fun c_9 => ?_) (fun c_9 => ?_)
        · have hw := hw.1 c_9
          refine lv_lconst (v := hz_l 0) hx hb dX1_takeMultiple_158 (by decide +kernel) ?_
          exact L159 A_8 x9 0 hw H locs ls hP hD hS (lv_sub hl [1, 2, 4] rfl)
        · have hw := hw.2 c_9
          refine lv_lconst (v := hz_l 1) hx hb dX1_takeMultiple_154 (by decide +kernel) ?_
          refine lv_goto (tgt := 159) hx hb dX1_takeMultiple_155 (by decide) ?_
          exact L159 A_8 x9 1 hw H locs ls hP hD hS (lv_sub hl [1, 2, 4] rfl)
  have L24 : ∀ (A : Nat → Nat → Int) (x6 : Int) (x8 : Int) (x9 : Int), wp_c1_takeMultiple_24 L K z r A y0 y1 y2 y4 y5 x6 x8 x9  Q → ∀ (H : Heap) (locs : List Loc) (ls : Array Slot), va_P D vwCl (cw_w C L K z r A) H → va_D Ad (cw_w C L K z r A) → va_S Ad s.heap H locs → lv_has ls 14 [(0, .ref y0), (1, .ref y1), (2, .long (hz_l y2)), (4, .int (hz_i y4)), (5, .int (hz_i y5)), (6, .long (hz_l x6)), (8, .int (hz_i x8)), (9, .int (hz_i x9))] → W p l e (headSpec wsX1_takeMultiple ({ frames := 1, cells := 0, slots := 0, locals := 20 } : Room)).room s m (List.toArray [.ref y0, .ref y1, .long (hz_l y2), .int (hz_i y4), .int (hz_i y5)]) below meth c H locs 0 0 QQ (F0 m 24 ls []) := by
    intro A x6 x8 x9 hw
    obtain ⟨P24, hP24⟩ : ∃ P : (Nat → Nat → Int) → Int → Int → Prop, ∀ (A : Nat → Nat → Int) (x6 : Int) (x9 : Int), P A x6 x9 ↔ (∀ (H : Heap) (locs : List Loc) (ls : Array Slot), va_P D vwCl (cw_w C L K z r A) H → va_D Ad (cw_w C L K z r A) → va_S Ad s.heap H locs → lv_has ls 14 [(0, .ref y0), (1, .ref y1), (2, .long (hz_l y2)), (4, .int (hz_i y4)), (5, .int (hz_i y5)), (6, .long (hz_l x6)), (8, .int (hz_i x8)), (9, .int (hz_i x9))] → W p l e (headSpec wsX1_takeMultiple ({ frames := 1, cells := 0, slots := 0, locals := 20 } : Room)).room s m (List.toArray [.ref y0, .ref y1, .long (hz_l y2), .int (hz_i y4), .int (hz_i y5)]) below meth c H locs 0 0 QQ (F0 m 24 ls [])) := ⟨fun (A : Nat → Nat → Int) (x6 : Int) (x9 : Int) => ∀ (H : Heap) (locs : List Loc) (ls : Array Slot), va_P D vwCl (cw_w C L K z r A) H → va_D Ad (cw_w C L K z r A) → va_S Ad s.heap H locs → lv_has ls 14 [(0, .ref y0), (1, .ref y1), (2, .long (hz_l y2)), (4, .int (hz_i y4)), (5, .int (hz_i y5)), (6, .long (hz_l x6)), (8, .int (hz_i x8)), (9, .int (hz_i x9))] → W p l e (headSpec wsX1_takeMultiple ({ frames := 1, cells := 0, slots := 0, locals := 20 } : Room)).room s m (List.toArray [.ref y0, .ref y1, .long (hz_l y2), .int (hz_i y4), .int (hz_i y5)]) below meth c H locs 0 0 QQ (F0 m 24 ls []), fun _ _ _ => Iff.rfl⟩
    refine (hP24 A x6 x9).mp (hw P24 ?_)
    intro A x6 x9 hw
    refine (hP24 A x6 x9).mpr ?_
    intro H locs ls hP hD hS hl
    have L98 : ∀ (A : Nat → Nat → Int) (x9 : Int) (t0 : Int) (t1 : Int), wp_c1_takeMultiple_98 L K z r A y0 y1 y2 y4 y5 x8 x9 t0 t1 P24 Q → ∀ (H : Heap) (locs : List Loc) (ls : Array Slot), va_P D vwCl (cw_w C L K z r A) H → va_D Ad (cw_w C L K z r A) → va_S Ad s.heap H locs → lv_has ls 14 [(0, .ref y0), (1, .ref y1), (2, .long (hz_l y2)), (4, .int (hz_i y4)), (5, .int (hz_i y5)), (8, .int (hz_i x8)), (9, .int (hz_i x9))] → W p l e (headSpec wsX1_takeMultiple ({ frames := 1, cells := 0, slots := 0, locals := 20 } : Room)).room s m (List.toArray [.ref y0, .ref y1, .long (hz_l y2), .int (hz_i y4), .int (hz_i y5)]) below meth c H locs 0 0 QQ (F0 m 98 ls [.int (hz_i t0), .long (hz_l t1)]) := by
      intro A x9 t0 t1 hw H locs ls hP hD hS hl
      obtain ⟨h9a, hw⟩ := hw
      refine hz_wi2l hx hb dX1_takeMultiple_98 h9a ?_
      refine hz_ladd hx hb dX1_takeMultiple_99 ?_
      refine hz_topl (fun x6_10 hx6_10 => ?_)
      have hw := hw x6_10 hx6_10
      refine lv_lstore (lv' := [(6, .long (hz_l x6_10)), (0, .ref y0), (1, .ref y1), (2, .long (hz_l y2)), (4, .int (hz_i y4)), (5, .int (hz_i y5)), (8, .int (hz_i x8)), (9, .int (hz_i x9))]) hx hb dX1_takeMultiple_100 hl (by decide) rfl (fun ls hl => ?_)
      obtain ⟨x9_11, hx9_11⟩ : ∃ y : Int, y = x9 + 1 := ⟨_, rfl⟩
      have hw := hw x9_11 hx9_11
      refine lv_iinc (v := hz_i x9_11) (lv' := [(9, .int (hz_i x9_11)), (6, .long (hz_l x6_10)), (0, .ref y0), (1, .ref y1), (2, .long (hz_l y2)), (4, .int (hz_i y4)), (5, .int (hz_i y5)), (8, .int (hz_i x8))]) hx hb dX1_takeMultiple_102 hl (k := 7) rfl (by rw [hx9_11]; exact hz_i_add _ _) (by decide) rfl (fun ls hl => ?_)
      refine lv_goto (tgt := 24) hx hb dX1_takeMultiple_105 (by decide) ?_
      exact (hP24 A x6_10 x9_11).mp hw H locs ls hP hD hS (lv_sub hl [2, 3, 4, 5, 6, 1, 7, 0] rfl)
    refine lv_iload hx hb dX1_takeMultiple_24 (lv_at hl 7 rfl) ?_
    refine lv_iload hx hb dX1_takeMultiple_26 (lv_at hl 6 rfl) ?_
    obtain ⟨h9a, hw⟩ := hw
    obtain ⟨h9b, hw⟩ := hw
    refine hz_icmp_ge (tgt := 108) hx hb dX1_takeMultiple_28 (by decide) h9a h9b (fun c_12 => ?_) (fun c_12 => ?_)
    · have hw := hw.1 c_12
      refine lv_iload hx hb dX1_takeMultiple_108 (lv_at hl 6 rfl) ?_
      refine lv_istore (lv' := [(9, .int (hz_i x8)), (0, .ref y0), (1, .ref y1), (2, .long (hz_l y2)), (4, .int (hz_i y4)), (5, .int (hz_i y5)), (6, .long (hz_l x6)), (8, .int (hz_i x8))]) hx hb dX1_takeMultiple_110 hl (by decide) rfl (fun ls hl => ?_)
      exact L112 A x6 x8 hw H locs ls hP hD hS (lv_sub hl [2, 5, 6, 0] rfl)
    · have hw := hw.2 c_12
      refine lv_lload_n hx hb dX1_takeMultiple_31 rfl (lv_at hl 2 rfl) ?_
      refine lv_aload_n hx hb dX1_takeMultiple_32 rfl (lv_at hl 0 rfl) ?_
      obtain ⟨hO_13, hw⟩ := hw
      refine cw_get (ci := 1) (v := .ref (r y0 0)) hx hb hts hin1 hown hK hP hO_13.1 hO_13.2 rfl 0 (by decide) (hts (.fieldLink RX1 14 "HiddenMoves$Divider" "odd" "LHiddenMoves$Big;") (List.mem_cons_of_mem _ (List.mem_append_left _ (List.mem_append_left _ (List.mem_of_getElem? (i := 0) rfl))))) (fun _ h9 => h9) rfl dX1_takeMultiple_33 ?_
      obtain ⟨hO_14, hw⟩ := hw
      refine cw_get (ci := 0) (v := .ref (r (r y0 0) 0)) hx hb hts hin0 hown hK hP hO_14.1 hO_14.2 rfl 0 (by decide) (hts (.fieldLink RX1 41 "HiddenMoves$Big" "digits" "[I") (List.mem_cons_of_mem _ (List.mem_append_left _ (List.mem_append_left _ (List.mem_of_getElem? (i := 6) rfl))))) (fun _ h9 => h9) rfl dX1_takeMultiple_36 ?_
      refine lv_iload hx hb dX1_takeMultiple_39 (lv_at hl 7 rfl) ?_
      refine lv_iload hx hb dX1_takeMultiple_41 (lv_at hl 3 rfl) ?_
      refine hz_isub hx hb dX1_takeMultiple_43 ?_
      obtain ⟨hO_15, hw⟩ := hw
      obtain ⟨h9i, hw⟩ := hw
      refine cw_ild hx hb hK hP hO_15.1 hO_15.2.2 h9i hO_15.2.1 dX1_takeMultiple_44 ?_
      obtain ⟨h9a, hw⟩ := hw
      refine hz_wi2l hx hb dX1_takeMultiple_45 h9a ?_
      refine lv_ldc2 hx hb hown (hts (.constantLong RX1 55 (4294967295)) (List.mem_cons_of_mem _ (List.mem_append_left _ (List.mem_append_left _ (List.mem_of_getElem? (i := 7) rfl))))) dX1_takeMultiple_46 ?_
      refine hz_asl (b := 4294967295) (by decide +kernel) ?_
      refine cw_land (P := 4294967296) hx hb 32 dX1_takeMultiple_49 (by decide) (by decide +kernel) (by decide +kernel) (fun x9_16 hx9_16a => ?_)
      have hw := hw x9_16 hx9_16a
      refine hz_lmul hx hb dX1_takeMultiple_50 ?_
      refine lv_lload hx hb dX1_takeMultiple_51 (lv_at hl 5 rfl) ?_
      refine hz_ladd hx hb dX1_takeMultiple_53 ?_
      refine hz_topl (fun x10_17 hx10_17 => ?_)
      have hw := hw x10_17 hx10_17
      refine lv_lstore (lv' := [(10, .long (hz_l x10_17)), (0, .ref y0), (1, .ref y1), (2, .long (hz_l y2)), (4, .int (hz_i y4)), (5, .int (hz_i y5)), (6, .long (hz_l x6)), (8, .int (hz_i x8)), (9, .int (hz_i x9))]) hx hb dX1_takeMultiple_54 hl (by decide) rfl (fun ls hl => ?_)
      refine lv_aload_n hx hb dX1_takeMultiple_56 rfl (lv_at hl 2 rfl) ?_
      refine lv_iload hx hb dX1_takeMultiple_57 (lv_at hl 8 rfl) ?_
      obtain ⟨hO_18, hw⟩ := hw
      obtain ⟨h9i, hw⟩ := hw
      refine cw_ild hx hb hK hP hO_18.1 hO_18.2.2 h9i hO_18.2.1 dX1_takeMultiple_59 ?_
      obtain ⟨h9a, hw⟩ := hw
      refine hz_wi2l hx hb dX1_takeMultiple_60 h9a ?_
      refine lv_ldc2 hx hb hown (hts (.constantLong RX1 55 (4294967295)) (List.mem_cons_of_mem _ (List.mem_append_left _ (List.mem_append_left _ (List.mem_of_getElem? (i := 7) rfl))))) dX1_takeMultiple_61 ?_
      refine hz_asl (b := 4294967295) (by decide +kernel) ?_
      refine cw_land (P := 4294967296) hx hb 32 dX1_takeMultiple_64 (by decide) (by decide +kernel) (by decide +kernel) (fun x9_19 hx9_19a => ?_)
      have hw := hw x9_19 hx9_19a
      refine lv_lload hx hb dX1_takeMultiple_65 (lv_at hl 0 rfl) ?_
      refine lv_ldc2 hx hb hown (hts (.constantLong RX1 55 (4294967295)) (List.mem_cons_of_mem _ (List.mem_append_left _ (List.mem_append_left _ (List.mem_of_getElem? (i := 7) rfl))))) dX1_takeMultiple_67 ?_
      refine hz_asl (b := 4294967295) (by decide +kernel) ?_
      refine cw_land (P := 4294967296) hx hb 32 dX1_takeMultiple_70 (by decide) (by decide +kernel) (by decide +kernel) (fun x9_20 hx9_20a => ?_)
      have hw := hw x9_20 hx9_20a
      refine hz_lsub hx hb dX1_takeMultiple_71 ?_
      refine hz_topl (fun x12_21 hx12_21 => ?_)
      have hw := hw x12_21 hx12_21
      refine lv_lstore (lv' := [(12, .long (hz_l x12_21)), (10, .long (hz_l x10_17)), (0, .ref y0), (1, .ref y1), (2, .long (hz_l y2)), (4, .int (hz_i y4)), (5, .int (hz_i y5)), (6, .long (hz_l x6)), (8, .int (hz_i x8)), (9, .int (hz_i x9))]) hx hb dX1_takeMultiple_72 hl (by decide) rfl (fun ls hl => ?_)
      refine lv_aload_n hx hb dX1_takeMultiple_74 rfl (lv_at hl 3 rfl) ?_
      refine lv_iload hx hb dX1_takeMultiple_75 (lv_at hl 9 rfl) ?_
      refine lv_lload hx hb dX1_takeMultiple_77 (lv_at hl 0 rfl) ?_
      refine cw_l2i hx hb dX1_takeMultiple_79 (fun x9_22 hx9_22a hx9_22b => ?_)
      have hw := hw x9_22 hx9_22a hx9_22b
      obtain ⟨h9i, hw⟩ := hw
      refine cw_ist (v := x9_22) hx hb hK hP hD hS hO_18.1 hO_18.2.2 h9i hO_18.2.1 dX1_takeMultiple_80 (fun H locs hP hD hS => ?_)
      obtain ⟨A_23, hA_23⟩ : ∃ y : Nat → Nat → Int, y = hz_s A y1 x9 x9_22 := ⟨_, rfl⟩
      rw [← hA_23] at hP hD
      have hw := hw A_23 hA_23
      refine lv_lload hx hb dX1_takeMultiple_81 (lv_at hl 1 rfl) ?_
      refine lv_bipush (v := hz_i 32) hx hb dX1_takeMultiple_83 (by decide +kernel) ?_
      refine cw_lushr (P := 4294967296) (d := 32) hx hb dX1_takeMultiple_85 (by decide +kernel) (by decide +kernel) (by decide +kernel) (fun x9_24 hx9_24a => ?_)
      have hw := hw x9_24 hx9_24a
      refine lv_lload hx hb dX1_takeMultiple_86 (lv_at hl 0 rfl) ?_
      refine lv_lconst (v := hz_l 0) hx hb dX1_takeMultiple_88 (by decide +kernel) ?_
      obtain ⟨h9a, hw⟩ := hw
      refine hz_lcmp_ge (tgt := 97) hx hb dX1_takeMultiple_89 dX1_takeMultiple_90 (by decide) h9a ⟨by decide, by decide⟩ (fun c_25 => ?_) (fun c_25 => ?_)
      · have hw := hw.1 c_25
        refine lv_iconst (v := hz_i 0) hx hb dX1_takeMultiple_97 (by decide +kernel) ?_
        exact L98 A_23 x9 0 x9_24 hw H locs ls hP hD hS (lv_sub hl [2, 3, 4, 5, 6, 8, 9] rfl)
      · have hw := hw.2 c_25
        refine lv_iconst (v := hz_i 1) hx hb dX1_takeMultiple_93 (by decide +kernel) ?_
        refine lv_goto (tgt := 98) hx hb dX1_takeMultiple_94 (by decide) ?_
        exact L98 A_23 x9 1 x9_24 hw H locs ls hP hD hS (lv_sub hl [2, 3, 4, 5, 6, 8, 9] rfl)
  have hP := hP0; have hD := hD0; have hS := hS0; have hl := hl0; have hw := hw0
  obtain ⟨H, hH⟩ : ∃ H : Heap, H = s.heap := ⟨_, rfl⟩
  obtain ⟨locs, hlocs⟩ : ∃ L : List Loc, L = [] := ⟨_, rfl⟩
  rw [← hH] at hP
  have hS : va_S Ad s.heap H locs := by rw [hH, hlocs]; exact hS
  refine mw_HL hH hlocs ?_
  refine lv_lconst (v := hz_l 0) hx hb dX1_takeMultiple_0 (by decide +kernel) ?_
  refine lv_lstore (lv' := [(6, .long (hz_l 0)), (0, .ref y0), (1, .ref y1), (2, .long (hz_l y2)), (4, .int (hz_i y4)), (5, .int (hz_i y5))]) hx hb dX1_takeMultiple_1 hl (by decide) rfl (fun ls hl => ?_)
  refine lv_iload hx hb dX1_takeMultiple_3 (lv_at hl 4 rfl) ?_
  refine lv_aload_n hx hb dX1_takeMultiple_5 rfl (lv_at hl 1 rfl) ?_
  obtain ⟨hO_26, hw⟩ := hw
  refine cw_get (ci := 1) (v := .ref (r y0 0)) hx hb hts hin1 hown hK hP hO_26.1 hO_26.2 rfl 0 (by decide) (hts (.fieldLink RX1 14 "HiddenMoves$Divider" "odd" "LHiddenMoves$Big;") (List.mem_cons_of_mem _ (List.mem_append_left _ (List.mem_append_left _ (List.mem_of_getElem? (i := 0) rfl))))) (fun _ h9 => h9) rfl dX1_takeMultiple_6 ?_
  obtain ⟨hO_27, hw⟩ := hw
  refine cw_get (ci := 0) (v := .int (hz_i (z (r y0 0) 1))) hx hb hts hin0 hown hK hP hO_27.1 hO_27.2 rfl 1 (by decide) (hts (.fieldLink RX1 38 "HiddenMoves$Big" "length" "I") (List.mem_cons_of_mem _ (List.mem_append_left _ (List.mem_append_left _ (List.mem_of_getElem? (i := 1) rfl))))) (fun _ h9 => h9) rfl dX1_takeMultiple_9 ?_
  refine hz_iadd hx hb dX1_takeMultiple_12 ?_
  refine lv_iload hx hb dX1_takeMultiple_13 (lv_at hl 5 rfl) ?_
  obtain ⟨h9a, hw⟩ := hw
  obtain ⟨h9b, hw⟩ := hw
  refine cw_mmin (x := y4 + (z (r y0 0) 1)) (y := y5) hx hb (by rw [hml]; exact hl.1.symm) hown (hts (.methodLink RX1 64 Lib.Math.min.name) (List.mem_cons_of_mem _ (List.mem_append_left _ (List.mem_append_left _ (List.mem_of_getElem? (i := 2) rfl))))) (hts (.static Lib.Math.min.name) (List.mem_cons_of_mem _ (List.mem_append_left _ (List.mem_append_left _ (List.mem_of_getElem? (i := 3) rfl))))) (hts (.initialized "java/lang/Math") (List.mem_cons_of_mem _ (List.mem_append_left _ (List.mem_append_left _ (List.mem_of_getElem? (i := 4) rfl))))) (hts (.code Lib.Math.min.name Lib.Math.min.code 2 (some .int)) (List.mem_cons_of_mem _ (List.mem_append_left _ (List.mem_append_left _ (List.mem_of_getElem? (i := 5) rfl))))) (Nat.le_of_ble_eq_true rfl) (Nat.le_of_ble_eq_true rfl) (Nat.zero_le _) (Nat.zero_le _) dX1_takeMultiple_15 h9a h9b (fun x9_28 hx9_28 => ?_)
  have hw := hw x9_28 hx9_28
  refine lv_istore (lv' := [(8, .int (hz_i x9_28)), (6, .long (hz_l 0)), (0, .ref y0), (1, .ref y1), (2, .long (hz_l y2)), (4, .int (hz_i y4)), (5, .int (hz_i y5))]) hx hb dX1_takeMultiple_18 hl (by decide) rfl (fun ls hl => ?_)
  refine lv_iload hx hb dX1_takeMultiple_20 (lv_at hl 5 rfl) ?_
  refine lv_istore (lv' := [(9, .int (hz_i y4)), (8, .int (hz_i x9_28)), (6, .long (hz_l 0)), (0, .ref y0), (1, .ref y1), (2, .long (hz_l y2)), (4, .int (hz_i y4)), (5, .int (hz_i y5))]) hx hb dX1_takeMultiple_22 hl (by decide) rfl (fun ls hl => ?_)
  exact L24 A 0 x9_28 y4 hw H locs ls hP hD hS (lv_sub hl [3, 4, 5, 6, 7, 2, 1, 0] rfl)
