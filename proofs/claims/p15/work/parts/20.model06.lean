noncomputable def wp_tell_119 (z : Nat → Int) (A : Nat → Nat → Int) (Q : (Nat → Int) → (Nat → Nat → Int) → Prop) : Prop := Q z A
noncomputable def wp_tell_77 (z : Nat → Int) (A : Nat → Nat → Int) (y1 : Int) (y2 : Int) (y3 : Int) (y4 : Int) (y5 : Int) (t0 : Int) (Q : (Nat → Int) → (Nat → Nat → Int) → Prop) : Prop := ∀ z_1 : Nat → Int, z_1 = lp_U z 3 t0 → hz_rI (z_1 3) ∧ ((¬ z_1 3 = 0 → wp_tell_119 z_1 A  Q) ∧ (z_1 3 = 0 → ∀ x7_3 : Int, x7_3 = (4 * ((10 * (y1 - 1)) + y2)) + y3 → (0 ≤ x7_3 ∧ x7_3 < 80) ∧ ∀ A_4 : Nat → Nat → Int, A_4 = hz_s A 49 x7_3 y4 → (0 ≤ x7_3 ∧ x7_3 < 80) ∧ ∀ A_5 : Nat → Nat → Int, A_5 = hz_s A_4 50 x7_3 y5 → wp_tell_119 z_1 A_5  Q))
noncomputable def wp_tell_72 (z : Nat → Int) (A : Nat → Nat → Int) (y1 : Int) (y2 : Int) (y3 : Int) (y4 : Int) (y5 : Int) (Q : (Nat → Int) → (Nat → Nat → Int) → Prop) : Prop := wp_tell_77 z A y1 y2 y3 y4 y5 2  Q
noncomputable def wp_tell_34 (z : Nat → Int) (A : Nat → Nat → Int) (y1 : Int) (y2 : Int) (y3 : Int) (y4 : Int) (y5 : Int) (t0 : Int) (Q : (Nat → Int) → (Nat → Nat → Int) → Prop) : Prop := hz_rI t0 ∧ ((¬ t0 = 0 → hz_rI y5 ∧ ((y5 < 1 → wp_tell_72 z A y1 y2 y3 y4 y5  Q) ∧ (¬ (y5 < 1) → hz_rI y5 ∧ ((9999 < y5 → wp_tell_72 z A y1 y2 y3 y4 y5  Q) ∧ (¬ (9999 < y5) → hz_rI y4 ∧ ((y4 < 0 → wp_tell_72 z A y1 y2 y3 y4 y5  Q) ∧ (¬ (y4 < 0) → hz_rI y4 ∧ hz_rI y5 ∧ ((y4 ≤ y5 → wp_tell_77 z A y1 y2 y3 y4 y5 0  Q) ∧ (¬ (y4 ≤ y5) → wp_tell_72 z A y1 y2 y3 y4 y5  Q))))))))) ∧ (t0 = 0 → wp_tell_77 z A y1 y2 y3 y4 y5 1  Q))
noncomputable def wp_tell_33 (z : Nat → Int) (A : Nat → Nat → Int) (y1 : Int) (y2 : Int) (y3 : Int) (y4 : Int) (y5 : Int) (Q : (Nat → Int) → (Nat → Nat → Int) → Prop) : Prop := wp_tell_34 z A y1 y2 y3 y4 y5 0  Q
noncomputable def wp_tell (z : Nat → Int) (A : Nat → Nat → Int) (y1 : Int) (y2 : Int) (y3 : Int) (y4 : Int) (y5 : Int) (Q : (Nat → Int) → (Nat → Nat → Int) → Prop) : Prop := wp_isSet z A y1 y2 (fun r_11 => hz_rI r_11 ∧ ((r_11 = 0 → wp_tell_33 z A y1 y2 y3 y4 y5  Q) ∧ (¬ (r_11 = 0) → hz_rI y3 ∧ ((y3 < 0 → wp_tell_33 z A y1 y2 y3 y4 y5  Q) ∧ (¬ (y3 < 0) → wp_movesOf z A ((10 * (y1 - 1)) + y2) (fun r_14 => hz_rI y3 ∧ hz_rI r_14 ∧ ((r_14 ≤ y3 → wp_tell_33 z A y1 y2 y3 y4 y5  Q) ∧ (¬ (r_14 ≤ y3) → wp_tell_34 z A y1 y2 y3 y4 y5 1  Q))))))))
set_option maxHeartbeats 4000000 in
set_option maxRecDepth 100000 in
theorem k_tell (l : Launch) (D : va_G) (sz : Nat) (om : Nat) (R : Nat → Nat) (C : Nat → ClassId) (z : Nat → Int) (A : Nat → Nat → Int) (y1 : Int) (y2 : Int) (y3 : Int) (y4 : Int) (y5 : Int) (Q : (Nat → Int) → (Nat → Nat → Int) → Prop) (hw : wp_tell z A y1 y2 y3 y4 y5 Q) : Met l yX12_tell wsX12_tell ({ frames := 2, cells := 0, slots := 0, locals := 43 } : Room) (va_Pc [.ref om, .int (hz_i y1), .int (hz_i y2), .int (hz_i y3), .int (hz_i y4), .int (hz_i y5)] (hm_P D (mw_w om R C z A) (mw_t C) sz)) (va_Qv (S := Int × (Nat → Int) × (Nat → Nat → Int)) (fun u => Q u.2.1 u.2.2) (fun u t => hm_B D (va_A (mw_w om R C z A) sz) (mw_w om R C u.2.1 u.2.2) (mw_t C) t) (va_A (mw_w om R C z A) sz)) 0 0 (va_A (mw_w om R C z A) sz) := by
  refine Met.ofW (cc := cX12_tell) (maxL := 8) (ret := none) (by decide) rfl ?_
  intro p e s m args below meth c s₁ B hml hv
  obtain ⟨rfl, hsz, hP, hK, hD0, hE⟩ := hv
  have hx := B.exec
  have hb := B.bytes
  have hr := B.returns
  have hts := atoms_spec (ws := wsX12_tell) B.pre
  have hown : s.vm.findClass RX12 = some m.cls := findClass_of_methodNamed B.named
  have hlocks := B.notSynchronized
  have hin12 : ∀ w ∈ u_ws RX12 TX12 58, w ∈ wsX12_tell := fun w h => List.mem_cons_of_mem _ (List.mem_append_right _ (h))
  subst hsz
  have hD := hD0.self (sz := s.heap.size)
  generalize hAe : va_A (mw_w om R C z A) s.heap.size = Ad at hD ⊢
  have hA : ∀ q : Nat, s.heap.size ≤ q → Ad q := fun q h => by rw [← hAe]; exact Or.inr h
  have hS : va_S Ad s.heap s.heap [] := va_S.rf
  have hl := lv_entry ([.ref om, .int (hz_i y1), .int (hz_i y2), .int (hz_i y3), .int (hz_i y4), .int (hz_i y5)]) (n := 8) (Nat.le_of_ble_eq_true rfl)
  rw [lg_entry_eq]
  generalize (lg_sl ([.ref om, .int (hz_i y1), .int (hz_i y2), .int (hz_i y3), .int (hz_i y4), .int (hz_i y5)]) ++ List.replicate (8 - (lg_sl ([.ref om, .int (hz_i y1), .int (hz_i y2), .int (hz_i y3), .int (hz_i y4), .int (hz_i y5)])).length) Slot.unset).toArray = ls at hl ⊢
  have hl : lv_has ls 8 [(0, .ref om), (1, .int (hz_i y1)), (2, .int (hz_i y2)), (3, .int (hz_i y3)), (4, .int (hz_i y4)), (5, .int (hz_i y5))] := hl
  refine mw_Q (fun QQ hQQ => ?_)
  have hP0 := hP; have hD0 := hD; have hS0 := hS; have hl0 := hl; have hw0 := hw
  clear hP hD hS hl hw
  have L119 : ∀ (z : Nat → Int) (A : Nat → Nat → Int), wp_tell_119 z A  Q → ∀ (H : Heap) (locs : List Loc) (ls : Array Slot), va_P D vwCl (mw_w om R C z A) H → va_D Ad (mw_w om R C z A) → va_S Ad s.heap H locs → lv_has ls 8 [(0, .ref om)] → W p l e (headSpec wsX12_tell ({ frames := 2, cells := 0, slots := 0, locals := 43 } : Room)).room s m (List.toArray [.ref om, .int (hz_i y1), .int (hz_i y2), .int (hz_i y3), .int (hz_i y4), .int (hz_i y5)]) below meth c H locs 0 0 QQ (F0 m 119 ls []) := by
    intro z A hw H locs ls hP hD hS hl
    subst hQQ
    subst hAe
    exact W.vret hx hb hr (fun t ht hW => ⟨⟨(0, z, A), rfl, hw, by rw [ht]; exact hP, va_K.moved hW.alike hK, hD⟩, hS.F ht⟩) hS.2.2 dX12_tell_119
  have L77 : ∀ (z : Nat → Int) (A : Nat → Nat → Int) (t0 : Int), wp_tell_77 z A y1 y2 y3 y4 y5 t0  Q → ∀ (H : Heap) (locs : List Loc) (ls : Array Slot), va_P D vwCl (mw_w om R C z A) H → va_D Ad (mw_w om R C z A) → va_S Ad s.heap H locs → lv_has ls 8 [(0, .ref om), (1, .int (hz_i y1)), (2, .int (hz_i y2)), (3, .int (hz_i y3)), (4, .int (hz_i y4)), (5, .int (hz_i y5))] → W p l e (headSpec wsX12_tell ({ frames := 2, cells := 0, slots := 0, locals := 43 } : Room)).room s m (List.toArray [.ref om, .int (hz_i y1), .int (hz_i y2), .int (hz_i y3), .int (hz_i y4), .int (hz_i y5)]) below meth c H locs 0 0 QQ (F0 m 77 ls [.int (hz_i t0), .ref om]) := by
    intro z A t0 hw H locs ls hP hD hS hl
    refine mw_put (ty := .int) (v := .int (hz_i t0)) hx hb hts hin12 hown hK hP hD hS 3 (by decide) (hts (.fieldLink RX12 223 "HiddenMovesModel" "thrown" "I") (List.mem_cons_of_mem _ (List.mem_append_left _ (List.mem_of_getElem? (i := 0) rfl)))) (fun _ h9 => h9) rfl (by decide +kernel) rfl rfl (mw_s3 R z t0) dX12_tell_77 (fun H locs hP hD hS => ?_)
    obtain ⟨z_1, hz_1⟩ : ∃ y : Nat → Int, y = lp_U z 3 t0 := ⟨_, rfl⟩
    rw [← hz_1] at hP hD
    have hw := hw z_1 hz_1
    refine lv_aload_n hx hb dX12_tell_80 rfl (lv_at hl 0 rfl) ?_
    refine mw_get (v := .int (hz_i (z_1 3))) hx hb hts hin12 hown hK hP 3 (by decide) (hts (.fieldLink RX12 223 "HiddenMovesModel" "thrown" "I") (List.mem_cons_of_mem _ (List.mem_append_left _ (List.mem_of_getElem? (i := 0) rfl)))) (fun _ h9 => h9) rfl dX12_tell_81 ?_
    obtain ⟨h9a, hw⟩ := hw
    refine hz_if_ne (tgt := 119) hx hb dX12_tell_84 (by decide) h9a (fun c_2 => ?_) (fun c_2 => ?_)
    · have hw := hw.1 c_2
      exact L119 z_1 A hw H locs ls hP hD hS (lv_sub hl [0] rfl)
    · have hw := hw.2 c_2
      refine lv_iconst (v := hz_i 4) hx hb dX12_tell_87 (by decide +kernel) ?_
      refine lv_bipush (v := hz_i 10) hx hb dX12_tell_88 (by decide +kernel) ?_
      refine lv_iload_n hx hb dX12_tell_90 rfl (lv_at hl 1 rfl) ?_
      refine lv_iconst (v := hz_i 1) hx hb dX12_tell_91 (by decide +kernel) ?_
      refine hz_isub hx hb dX12_tell_92 ?_
      refine hz_imul hx hb dX12_tell_93 ?_
      refine lv_iload_n hx hb dX12_tell_94 rfl (lv_at hl 2 rfl) ?_
      refine hz_iadd hx hb dX12_tell_95 ?_
      refine hz_imul hx hb dX12_tell_96 ?_
      refine lv_iload_n hx hb dX12_tell_97 rfl (lv_at hl 3 rfl) ?_
      refine hz_iadd hx hb dX12_tell_98 ?_
      refine hz_topi (fun x7_3 hx7_3 => ?_)
      have hw := hw x7_3 hx7_3
      refine lv_istore (lv' := [(7, .int (hz_i x7_3)), (0, .ref om), (1, .int (hz_i y1)), (2, .int (hz_i y2)), (3, .int (hz_i y3)), (4, .int (hz_i y4)), (5, .int (hz_i y5))]) hx hb dX12_tell_99 hl (by decide) rfl (fun ls hl => ?_)
      refine lv_aload_n hx hb dX12_tell_101 rfl (lv_at hl 1 rfl) ?_
      refine mw_get (v := .ref (R 49)) hx hb hts hin12 hown hK hP 49 (by decide) (hts (.fieldLink RX12 199 "HiddenMovesModel" "wayTop" "[I") (List.mem_cons_of_mem _ (List.mem_append_left _ (List.mem_of_getElem? (i := 1) rfl)))) (fun _ h9 => h9) rfl dX12_tell_102 ?_
      refine lv_iload hx hb dX12_tell_105 (lv_at hl 0 rfl) ?_
      refine lv_iload hx hb dX12_tell_107 (lv_at hl 5 rfl) ?_
      obtain ⟨h9i, hw⟩ := hw
      refine mw_ist (k := 49) (n := 80) (i := x7_3) (v := y4) hx hb hK hP hD hS 36 35 rfl rfl (mw_a49 om R C z_1 A) h9i (by decide) dX12_tell_109 (fun H locs hP hD hS => ?_)
      obtain ⟨A_4, hA_4⟩ : ∃ y : Nat → Nat → Int, y = hz_s A 49 x7_3 y4 := ⟨_, rfl⟩
      rw [← hA_4] at hP hD
      have hw := hw A_4 hA_4
      refine lv_aload_n hx hb dX12_tell_110 rfl (lv_at hl 1 rfl) ?_
      refine mw_get (v := .ref (R 50)) hx hb hts hin12 hown hK hP 50 (by decide) (hts (.fieldLink RX12 202 "HiddenMovesModel" "wayBottom" "[I") (List.mem_cons_of_mem _ (List.mem_append_left _ (List.mem_of_getElem? (i := 2) rfl)))) (fun _ h9 => h9) rfl dX12_tell_111 ?_
      refine lv_iload hx hb dX12_tell_114 (lv_at hl 0 rfl) ?_
      refine lv_iload hx hb dX12_tell_116 (lv_at hl 6 rfl) ?_
      obtain ⟨h9i, hw⟩ := hw
      refine mw_ist (k := 50) (n := 80) (i := x7_3) (v := y5) hx hb hK hP hD hS 37 36 rfl rfl (mw_a50 om R C z_1 A_4) h9i (by decide) dX12_tell_118 (fun H locs hP hD hS => ?_)
      obtain ⟨A_5, hA_5⟩ : ∃ y : Nat → Nat → Int, y = hz_s A_4 50 x7_3 y5 := ⟨_, rfl⟩
      rw [← hA_5] at hP hD
      have hw := hw A_5 hA_5
      exact L119 z_1 A_5 hw H locs ls hP hD hS (lv_sub hl [1] rfl)
  have L72 : ∀ (z : Nat → Int) (A : Nat → Nat → Int), wp_tell_72 z A y1 y2 y3 y4 y5  Q → ∀ (H : Heap) (locs : List Loc) (ls : Array Slot), va_P D vwCl (mw_w om R C z A) H → va_D Ad (mw_w om R C z A) → va_S Ad s.heap H locs → lv_has ls 8 [(0, .ref om), (1, .int (hz_i y1)), (2, .int (hz_i y2)), (3, .int (hz_i y3)), (4, .int (hz_i y4)), (5, .int (hz_i y5))] → W p l e (headSpec wsX12_tell ({ frames := 2, cells := 0, slots := 0, locals := 43 } : Room)).room s m (List.toArray [.ref om, .int (hz_i y1), .int (hz_i y2), .int (hz_i y3), .int (hz_i y4), .int (hz_i y5)]) below meth c H locs 0 0 QQ (F0 m 72 ls [.ref om]) := by
    intro z A hw H locs ls hP hD hS hl
    refine lv_iconst (v := hz_i 2) hx hb dX12_tell_72 (by decide +kernel) ?_
    refine lv_goto (tgt := 77) hx hb dX12_tell_73 (by decide) ?_
    exact L77 z A 2 hw H locs ls hP hD hS (lv_sub hl [0, 1, 2, 3, 4, 5] rfl)
  have L34 : ∀ (z : Nat → Int) (A : Nat → Nat → Int) (t0 : Int), wp_tell_34 z A y1 y2 y3 y4 y5 t0  Q → ∀ (H : Heap) (locs : List Loc) (ls : Array Slot), va_P D vwCl (mw_w om R C z A) H → va_D Ad (mw_w om R C z A) → va_S Ad s.heap H locs → lv_has ls 8 [(0, .ref om), (1, .int (hz_i y1)), (2, .int (hz_i y2)), (3, .int (hz_i y3)), (4, .int (hz_i y4)), (5, .int (hz_i y5))] → W p l e (headSpec wsX12_tell ({ frames := 2, cells := 0, slots := 0, locals := 43 } : Room)).room s m (List.toArray [.ref om, .int (hz_i y1), .int (hz_i y2), .int (hz_i y3), .int (hz_i y4), .int (hz_i y5)]) below meth c H locs 0 0 QQ (F0 m 34 ls [.int (hz_i t0)]) := by
    intro z A t0 hw H locs ls hP hD hS hl
    refine lv_istore (lv' := [(6, .int (hz_i t0)), (0, .ref om), (1, .int (hz_i y1)), (2, .int (hz_i y2)), (3, .int (hz_i y3)), (4, .int (hz_i y4)), (5, .int (hz_i y5))]) hx hb dX12_tell_34 hl (by decide) rfl (fun ls hl => ?_)
    refine lv_aload_n hx hb dX12_tell_36 rfl (lv_at hl 1 rfl) ?_
    refine lv_iload hx hb dX12_tell_37 (lv_at hl 0 rfl) ?_
    obtain ⟨h9a, hw⟩ := hw
    refine hz_if_ne (tgt := 46) hx hb dX12_tell_39 (by decide) h9a (fun c_6 => ?_) (fun c_6 => ?_)
    · have hw := hw.1 c_6
      refine lv_iload hx hb dX12_tell_46 (lv_at hl 6 rfl) ?_
      refine lv_iconst (v := hz_i 1) hx hb dX12_tell_48 (by decide +kernel) ?_
      obtain ⟨h9a, hw⟩ := hw
      refine hz_icmp_lt (tgt := 72) hx hb dX12_tell_49 (by decide) h9a ⟨by decide, by decide⟩ (fun c_7 => ?_) (fun c_7 => ?_)
      · have hw := hw.1 c_7
        exact L72 z A hw H locs ls hP hD hS (lv_sub hl [1, 2, 3, 4, 5, 6] rfl)
      · have hw := hw.2 c_7
        refine lv_iload hx hb dX12_tell_52 (lv_at hl 6 rfl) ?_
        refine lv_sipush (v := hz_i 9999) hx hb dX12_tell_54 (by decide +kernel) ?_
        obtain ⟨h9a, hw⟩ := hw
        refine hz_icmp_gt (tgt := 72) hx hb dX12_tell_57 (by decide) h9a ⟨by decide, by decide⟩ (fun c_8 => ?_) (fun c_8 => ?_)
        · have hw := hw.1 c_8
          exact L72 z A hw H locs ls hP hD hS (lv_sub hl [1, 2, 3, 4, 5, 6] rfl)
        · have hw := hw.2 c_8
          refine lv_iload hx hb dX12_tell_60 (lv_at hl 5 rfl) ?_
          obtain ⟨h9a, hw⟩ := hw
          refine hz_if_lt (tgt := 72) hx hb dX12_tell_62 (by decide) h9a (fun c_9 => ?_) (fun c_9 => ?_)
          · have hw := hw.1 c_9
            exact L72 z A hw H locs ls hP hD hS (lv_sub hl [1, 2, 3, 4, 5, 6] rfl)
          · have hw := hw.2 c_9
            refine lv_iload hx hb dX12_tell_65 (lv_at hl 5 rfl) ?_
            refine lv_iload hx hb dX12_tell_67 (lv_at hl 6 rfl) ?_
            obtain ⟨h9a, hw⟩ := hw
            obtain ⟨h9b, hw⟩ := hw
            refine hz_icmp_le (tgt := 76) hx hb dX12_tell_69 (by decide) h9a h9b (fun c_10 => ?_) (fun c_10 => ?_)
            · have hw := hw.1 c_10
              refine lv_iconst (v := hz_i 0) hx hb dX12_tell_76 (by decide +kernel) ?_
              exact L77 z A 0 hw H locs ls hP hD hS (lv_sub hl [1, 2, 3, 4, 5, 6] rfl)
            · have hw := hw.2 c_10
              exact L72 z A hw H locs ls hP hD hS (lv_sub hl [1, 2, 3, 4, 5, 6] rfl)
    · have hw := hw.2 c_6
      refine lv_iconst (v := hz_i 1) hx hb dX12_tell_42 (by decide +kernel) ?_
      refine lv_goto (tgt := 77) hx hb dX12_tell_43 (by decide) ?_
      exact L77 z A 1 hw H locs ls hP hD hS (lv_sub hl [1, 2, 3, 4, 5, 6] rfl)
  have L33 : ∀ (z : Nat → Int) (A : Nat → Nat → Int), wp_tell_33 z A y1 y2 y3 y4 y5  Q → ∀ (H : Heap) (locs : List Loc) (ls : Array Slot), va_P D vwCl (mw_w om R C z A) H → va_D Ad (mw_w om R C z A) → va_S Ad s.heap H locs → lv_has ls 8 [(0, .ref om), (1, .int (hz_i y1)), (2, .int (hz_i y2)), (3, .int (hz_i y3)), (4, .int (hz_i y4)), (5, .int (hz_i y5))] → W p l e (headSpec wsX12_tell ({ frames := 2, cells := 0, slots := 0, locals := 43 } : Room)).room s m (List.toArray [.ref om, .int (hz_i y1), .int (hz_i y2), .int (hz_i y3), .int (hz_i y4), .int (hz_i y5)]) below meth c H locs 0 0 QQ (F0 m 33 ls []) := by
    intro z A hw H locs ls hP hD hS hl
    refine lv_iconst (v := hz_i 0) hx hb dX12_tell_33 (by decide +kernel) ?_
    exact L34 z A 0 hw H locs ls hP hD hS (lv_sub hl [0, 1, 2, 3, 4, 5] rfl)
  have hP := hP0; have hD := hD0; have hS := hS0; have hl := hl0; have hw := hw0
  obtain ⟨H, hH⟩ : ∃ H : Heap, H = s.heap := ⟨_, rfl⟩
  obtain ⟨locs, hlocs⟩ : ∃ L : List Loc, L = [] := ⟨_, rfl⟩
  rw [← hH] at hP
  have hS : va_S Ad s.heap H locs := by rw [hH, hlocs]; exact hS
  refine mw_HL hH hlocs ?_
  refine lv_aload_n hx hb dX12_tell_0 rfl (lv_at hl 0 rfl) ?_
  refine lv_iload_n hx hb dX12_tell_1 rfl (lv_at hl 1 rfl) ?_
  refine lv_iload_n hx hb dX12_tell_2 rfl (lv_at hl 2 rfl) ?_
  have hFc := mw_free hD hS hA
  refine va_calli (va_runV (As := [.int (hz_i y1), .int (hz_i y2)]) (rest := []) ⟨hx, hb, hml, hown, hts⟩ (k_isSet l D _ om R C z A y1 y2 _ hw) (cwV 2 hts gX12_tell_X12_isSet rfl rfl rfl (by decide +kernel) ⟨Nat.le_of_ble_eq_true rfl, Nat.le_of_ble_eq_true rfl⟩) ⟨hm_blind, va_recv hK hP (ci := 12) (q0 := 0) rfl rfl, hm_pre hP hK hD hE⟩ rfl rfl hl.1 rfl (lv_room (Nat.le_of_ble_eq_true rfl)) dX12_tell_3 ⟨Nat.le_of_ble_eq_true rfl, Nat.le_of_ble_eq_true rfl⟩) hS (fun q _ h => hFc q h) hFc (fun rv u t H1 locs ht hvm hw hB hz1 hk1 hS => ?_)
  obtain ⟨r_11, _, _⟩ := u
  obtain ⟨hP, hK1, hD1⟩ := hB
  rw [ht] at hP
  obtain ⟨hrv, hw⟩ := hw
  subst hrv
  have hD := hD1.weaken (fun k q _ h => hFc q.1 h)
  have hP : va_P D vwCl (mw_w om R C z A) H1 := hP
  have hD : va_D Ad (mw_w om R C z A) := hD
  generalize H1 = H at hP hS ⊢
  refine W.eq (g2 := F0 m 6 ls [.int (hz_i r_11)]) rfl ?_
  obtain ⟨h9a, hw⟩ := hw
  refine hz_if_eq (tgt := 33) hx hb dX12_tell_6 (by decide) h9a (fun c_12 => ?_) (fun c_12 => ?_)
  · have hw := hw.1 c_12
    exact L33 z A hw H locs ls hP hD hS (lv_sub hl [0, 1, 2, 3, 4, 5] rfl)
  · have hw := hw.2 c_12
    refine lv_iload_n hx hb dX12_tell_9 rfl (lv_at hl 3 rfl) ?_
    obtain ⟨h9a, hw⟩ := hw
    refine hz_if_lt (tgt := 33) hx hb dX12_tell_10 (by decide) h9a (fun c_13 => ?_) (fun c_13 => ?_)
    · have hw := hw.1 c_13
      exact L33 z A hw H locs ls hP hD hS (lv_sub hl [0, 1, 2, 3, 4, 5] rfl)
    · have hw := hw.2 c_13
      refine lv_iload_n hx hb dX12_tell_13 rfl (lv_at hl 3 rfl) ?_
      refine lv_aload_n hx hb dX12_tell_14 rfl (lv_at hl 0 rfl) ?_
      refine lv_bipush (v := hz_i 10) hx hb dX12_tell_15 (by decide +kernel) ?_
      refine lv_iload_n hx hb dX12_tell_17 rfl (lv_at hl 1 rfl) ?_
      refine lv_iconst (v := hz_i 1) hx hb dX12_tell_18 (by decide +kernel) ?_
      refine hz_isub hx hb dX12_tell_19 ?_
      refine hz_imul hx hb dX12_tell_20 ?_
      refine lv_iload_n hx hb dX12_tell_21 rfl (lv_at hl 2 rfl) ?_
      refine hz_iadd hx hb dX12_tell_22 ?_
      have hFc := mw_free hD hS hA
      refine va_calli (va_runV (As := [.int (hz_i ((10 * (y1 - 1)) + y2))]) (rest := [.int (hz_i y3)]) ⟨hx, hb, hml, hown, hts⟩ (k_movesOf l D _ om R C z A ((10 * (y1 - 1)) + y2) _ hw) (cwV 1 hts gX12_tell_X12_movesOf rfl rfl rfl (by decide +kernel) ⟨Nat.le_of_ble_eq_true rfl, Nat.le_of_ble_eq_true rfl⟩) ⟨hm_blind, va_recv hK hP (ci := 12) (q0 := 0) rfl rfl, hm_pre hP hK hD hE⟩ rfl rfl hl.1 rfl (lv_room (Nat.le_of_ble_eq_true rfl)) dX12_tell_23 ⟨Nat.le_of_ble_eq_true rfl, Nat.le_of_ble_eq_true rfl⟩) hS (fun q _ h => hFc q h) hFc (fun rv u t H1 locs ht hvm hw hB hz1 hk1 hS => ?_)
      obtain ⟨r_14, _, _⟩ := u
      obtain ⟨hP, hK1, hD1⟩ := hB
      rw [ht] at hP
      obtain ⟨hrv, hw⟩ := hw
      subst hrv
      have hD := hD1.weaken (fun k q _ h => hFc q.1 h)
      have hP : va_P D vwCl (mw_w om R C z A) H1 := hP
      have hD : va_D Ad (mw_w om R C z A) := hD
      generalize H1 = H at hP hS ⊢
      refine W.eq (g2 := F0 m 26 ls [.int (hz_i r_14), .int (hz_i y3)]) rfl ?_
      obtain ⟨h9a, hw⟩ := hw
      obtain ⟨h9b, hw⟩ := hw
      refine hz_icmp_ge (tgt := 33) hx hb dX12_tell_26 (by decide) h9a h9b (fun c_15 => ?_) (fun c_15 => ?_)
      · have hw := hw.1 c_15
        exact L33 z A hw H locs ls hP hD hS (lv_sub hl [0, 1, 2, 3, 4, 5] rfl)
      · have hw := hw.2 c_15
        refine lv_iconst (v := hz_i 1) hx hb dX12_tell_29 (by decide +kernel) ?_
        refine lv_goto (tgt := 34) hx hb dX12_tell_30 (by decide) ?_
        exact L34 z A 1 hw H locs ls hP hD hS (lv_sub hl [0, 1, 2, 3, 4, 5] rfl)

noncomputable def wp_isGood_111 (z : Nat → Int) (A : Nat → Nat → Int) (y1 : Int) (x3 : Int) (t0 : Int) (P9 : Int → Int → Prop) (Q : Int → Prop) : Prop := ∀ x3_1 : Int, x3_1 = x3 + 1 → P9 t0 x3_1
noncomputable def wp_isGood_110 (z : Nat → Int) (A : Nat → Nat → Int) (y1 : Int) (x3 : Int) (P9 : Int → Int → Prop) (Q : Int → Prop) : Prop := wp_isGood_111 z A y1 x3 0 P9 Q
noncomputable def wp_isGood_36 (z : Nat → Int) (A : Nat → Nat → Int) (y1 : Int) (x2 : Int) (x3 : Int) (x4 : Int) (x6 : Int) (x8 : Int) (P9 : Int → Int → Prop) (Q : Int → Prop) : Prop := ∀ P36 : Int → Int → Int → Prop, (∀ (x4 : Int) (x6 : Int) (x8 : Int), wp_movesOf z A x3 (fun r_2 => hz_rI x8 ∧ hz_rI ((4 * x3) + r_2) ∧ (((4 * x3) + r_2 ≤ x8 → hz_rI x2 ∧ ((x2 = 0 → wp_isGood_110 z A y1 x3 P9 Q) ∧ (¬ (x2 = 0) → hz_rL x4 ∧ hz_rL x6 ∧ ((¬ x4 = x6 → wp_isGood_110 z A y1 x3 P9 Q) ∧ (x4 = x6 → wp_isGood_111 z A y1 x3 1 P9 Q))))) ∧ (¬ ((4 * x3) + r_2 ≤ x8) → (0 ≤ x8 ∧ x8 < 80) ∧ hz_rI (A 50 (x8.toNat)) ∧ (0 ≤ x8 ∧ x8 < 80) ∧ hz_rI (A 49 (x8.toNat)) ∧ ∀ x4_6 : Int, x4_6 = (x4 * (A 50 (x8.toNat))) + ((A 49 (x8.toNat)) * x6) → (0 ≤ x8 ∧ x8 < 80) ∧ hz_rI (A 50 (x8.toNat)) ∧ ∀ x6_7 : Int, x6_7 = x6 * (A 50 (x8.toNat)) → ∀ x8_8 : Int, x8_8 = x8 + 1 → P36 x4_6 x6_7 x8_8))) → P36 x4 x6 x8) → P36 x4 x6 x8
noncomputable def wp_isGood_9 (z : Nat → Int) (A : Nat → Nat → Int) (y1 : Int) (x2 : Int) (x3 : Int) (Q : Int → Prop) : Prop := ∀ P9 : Int → Int → Prop, (∀ (x2 : Int) (x3 : Int), wp_setsOf z A y1 (fun r_9 => hz_rI x3 ∧ hz_rI ((10 * (y1 - 1)) + r_9) ∧ (((10 * (y1 - 1)) + r_9 ≤ x3 → (x2 = 0 ∨ x2 = 1) ∧ Q x2) ∧ (¬ ((10 * (y1 - 1)) + r_9 ≤ x3) → ∀ x8_11 : Int, x8_11 = 4 * x3 → wp_isGood_36 z A y1 x2 x3 0 1 x8_11 P9 Q))) → P9 x2 x3) → P9 x2 x3
noncomputable def wp_isGood (z : Nat → Int) (A : Nat → Nat → Int) (y1 : Int) (Q : Int → Prop) : Prop := ∀ x3_12 : Int, x3_12 = 10 * (y1 - 1) → wp_isGood_9 z A y1 1 x3_12  Q
set_option maxHeartbeats 4000000 in
set_option maxRecDepth 100000 in
theorem k_isGood (l : Launch) (D : va_G) (sz : Nat) (om : Nat) (R : Nat → Nat) (C : Nat → ClassId) (z : Nat → Int) (A : Nat → Nat → Int) (y1 : Int) (Q : Int → Prop) (hw : wp_isGood z A y1 Q) : Met l yX12_isGood wsX12_isGood ({ frames := 1, cells := 0, slots := 0, locals := 21 } : Room) (va_Pc [.ref om, .int (hz_i y1)] (hm_P D (mw_w om R C z A) (mw_t C) sz)) (va_Qi (S := Int × (Nat → Int) × (Nat → Nat → Int)) (fun r u => r = hz_i u.1 ∧ Q u.1) (fun u t => hm_B D (va_A (mw_w om R C z A) sz) (mw_w om R C z A) (mw_t C) t) (va_A (mw_w om R C z A) sz)) 0 0 (va_A (mw_w om R C z A) sz) := by
  refine Met.ofW (cc := cX12_isGood) (maxL := 9) (ret := (some .boolean)) (by decide) rfl ?_
  intro p e s m args below meth c s₁ B hml hv
  obtain ⟨rfl, hsz, hP, hK, hD0, hE⟩ := hv
  have hx := B.exec
  have hb := B.bytes
  have hr := B.returns
  have hts := atoms_spec (ws := wsX12_isGood) B.pre
  have hown : s.vm.findClass RX12 = some m.cls := findClass_of_methodNamed B.named
  have hlocks := B.notSynchronized
  have hin12 : ∀ w ∈ u_ws RX12 TX12 58, w ∈ wsX12_isGood := fun w h => List.mem_cons_of_mem _ (List.mem_append_right _ (h))
  subst hsz
  have hD := hD0.self (sz := s.heap.size)
  generalize hAe : va_A (mw_w om R C z A) s.heap.size = Ad at hD ⊢
  have hA : ∀ q : Nat, s.heap.size ≤ q → Ad q := fun q h => by rw [← hAe]; exact Or.inr h
  have hS : va_S Ad s.heap s.heap [] := va_S.rf
  have hl := lv_entry ([.ref om, .int (hz_i y1)]) (n := 9) (Nat.le_of_ble_eq_true rfl)
  rw [lg_entry_eq]
  generalize (lg_sl ([.ref om, .int (hz_i y1)]) ++ List.replicate (9 - (lg_sl ([.ref om, .int (hz_i y1)])).length) Slot.unset).toArray = ls at hl ⊢
  have hl : lv_has ls 9 [(0, .ref om), (1, .int (hz_i y1))] := hl
  refine mw_Q (fun QQ hQQ => ?_)
  have hP0 := hP; have hD0 := hD; have hS0 := hS; have hl0 := hl; have hw0 := hw
  clear hP hD hS hl hw
  have L9 : ∀ (x2 : Int) (x3 : Int), wp_isGood_9 z A y1 x2 x3  Q → ∀ (H : Heap) (locs : List Loc) (ls : Array Slot), va_P D vwCl (mw_w om R C z A) H → va_D Ad (mw_w om R C z A) → va_S Ad s.heap H locs → lv_has ls 9 [(0, .ref om), (1, .int (hz_i y1)), (2, .int (hz_i x2)), (3, .int (hz_i x3))] → W p l e (headSpec wsX12_isGood ({ frames := 1, cells := 0, slots := 0, locals := 21 } : Room)).room s m (List.toArray [.ref om, .int (hz_i y1)]) below meth c H locs 0 0 QQ (F0 m 9 ls []) := by
    intro x2 x3 hw
    obtain ⟨P9, hP9⟩ : ∃ P : Int → Int → Prop, ∀ (x2 : Int) (x3 : Int), P x2 x3 ↔ (∀ (H : Heap) (locs : List Loc) (ls : Array Slot), va_P D vwCl (mw_w om R C z A) H → va_D Ad (mw_w om R C z A) → va_S Ad s.heap H locs → lv_has ls 9 [(0, .ref om), (1, .int (hz_i y1)), (2, .int (hz_i x2)), (3, .int (hz_i x3))] → W p l e (headSpec wsX12_isGood ({ frames := 1, cells := 0, slots := 0, locals := 21 } : Room)).room s m (List.toArray [.ref om, .int (hz_i y1)]) below meth c H locs 0 0 QQ (F0 m 9 ls [])) := ⟨fun (x2 : Int) (x3 : Int) => ∀ (H : Heap) (locs : List Loc) (ls : Array Slot), va_P D vwCl (mw_w om R C z A) H → va_D Ad (mw_w om R C z A) → va_S Ad s.heap H locs → lv_has ls 9 [(0, .ref om), (1, .int (hz_i y1)), (2, .int (hz_i x2)), (3, .int (hz_i x3))] → W p l e (headSpec wsX12_isGood ({ frames := 1, cells := 0, slots := 0, locals := 21 } : Room)).room s m (List.toArray [.ref om, .int (hz_i y1)]) below meth c H locs 0 0 QQ (F0 m 9 ls []), fun _ _ => Iff.rfl⟩
    refine (hP9 x2 x3).mp (hw P9 ?_)
    intro x2 x3 hw
    refine (hP9 x2 x3).mpr ?_
    intro H locs ls hP hD hS hl
    have L111 : ∀ (x3 : Int) (t0 : Int), wp_isGood_111 z A y1 x3 t0 P9 Q → ∀ (H : Heap) (locs : List Loc) (ls : Array Slot), va_P D vwCl (mw_w om R C z A) H → va_D Ad (mw_w om R C z A) → va_S Ad s.heap H locs → lv_has ls 9 [(0, .ref om), (1, .int (hz_i y1)), (3, .int (hz_i x3))] → W p l e (headSpec wsX12_isGood ({ frames := 1, cells := 0, slots := 0, locals := 21 } : Room)).room s m (List.toArray [.ref om, .int (hz_i y1)]) below meth c H locs 0 0 QQ (F0 m 111 ls [.int (hz_i t0)]) := by
      intro x3 t0 hw H locs ls hP hD hS hl
      refine lv_istore_n (lv' := [(2, .int (hz_i t0)), (0, .ref om), (1, .int (hz_i y1)), (3, .int (hz_i x3))]) hx hb dX12_isGood_111 rfl hl (by decide) rfl (fun ls hl => ?_)
      obtain ⟨x3_1, hx3_1⟩ : ∃ y : Int, y = x3 + 1 := ⟨_, rfl⟩
      have hw := hw x3_1 hx3_1
      refine lv_iinc (v := hz_i x3_1) (lv' := [(3, .int (hz_i x3_1)), (2, .int (hz_i t0)), (0, .ref om), (1, .int (hz_i y1))]) hx hb dX12_isGood_112 hl (k := 3) rfl (by rw [hx3_1]; exact hz_i_add _ _) (by decide) rfl (fun ls hl => ?_)
      refine lv_goto (tgt := 9) hx hb dX12_isGood_115 (by decide) ?_
      exact (hP9 t0 x3_1).mp hw H locs ls hP hD hS (lv_sub hl [2, 3, 1, 0] rfl)
    have L110 : ∀ (x3 : Int), wp_isGood_110 z A y1 x3 P9 Q → ∀ (H : Heap) (locs : List Loc) (ls : Array Slot), va_P D vwCl (mw_w om R C z A) H → va_D Ad (mw_w om R C z A) → va_S Ad s.heap H locs → lv_has ls 9 [(0, .ref om), (1, .int (hz_i y1)), (3, .int (hz_i x3))] → W p l e (headSpec wsX12_isGood ({ frames := 1, cells := 0, slots := 0, locals := 21 } : Room)).room s m (List.toArray [.ref om, .int (hz_i y1)]) below meth c H locs 0 0 QQ (F0 m 110 ls []) := by
      intro x3 hw H locs ls hP hD hS hl
      refine lv_iconst (v := hz_i 0) hx hb dX12_isGood_110 (by decide +kernel) ?_
      exact L111 x3 0 hw H locs ls hP hD hS (lv_sub hl [0, 1, 2] rfl)
    have L36 : ∀ (x2 : Int) (x3 : Int) (x4 : Int) (x6 : Int) (x8 : Int), wp_isGood_36 z A y1 x2 x3 x4 x6 x8 P9 Q → ∀ (H : Heap) (locs : List Loc) (ls : Array Slot), va_P D vwCl (mw_w om R C z A) H → va_D Ad (mw_w om R C z A) → va_S Ad s.heap H locs → lv_has ls 9 [(0, .ref om), (1, .int (hz_i y1)), (2, .int (hz_i x2)), (3, .int (hz_i x3)), (4, .long (hz_l x4)), (6, .long (hz_l x6)), (8, .int (hz_i x8))] → W p l e (headSpec wsX12_isGood ({ frames := 1, cells := 0, slots := 0, locals := 21 } : Room)).room s m (List.toArray [.ref om, .int (hz_i y1)]) below meth c H locs 0 0 QQ (F0 m 36 ls []) := by
      intro x2 x3 x4 x6 x8 hw
      obtain ⟨P36, hP36⟩ : ∃ P : Int → Int → Int → Prop, ∀ (x4 : Int) (x6 : Int) (x8 : Int), P x4 x6 x8 ↔ (∀ (H : Heap) (locs : List Loc) (ls : Array Slot), va_P D vwCl (mw_w om R C z A) H → va_D Ad (mw_w om R C z A) → va_S Ad s.heap H locs → lv_has ls 9 [(0, .ref om), (1, .int (hz_i y1)), (2, .int (hz_i x2)), (3, .int (hz_i x3)), (4, .long (hz_l x4)), (6, .long (hz_l x6)), (8, .int (hz_i x8))] → W p l e (headSpec wsX12_isGood ({ frames := 1, cells := 0, slots := 0, locals := 21 } : Room)).room s m (List.toArray [.ref om, .int (hz_i y1)]) below meth c H locs 0 0 QQ (F0 m 36 ls [])) := ⟨fun (x4 : Int) (x6 : Int) (x8 : Int) => ∀ (H : Heap) (locs : List Loc) (ls : Array Slot), va_P D vwCl (mw_w om R C z A) H → va_D Ad (mw_w om R C z A) → va_S Ad s.heap H locs → lv_has ls 9 [(0, .ref om), (1, .int (hz_i y1)), (2, .int (hz_i x2)), (3, .int (hz_i x3)), (4, .long (hz_l x4)), (6, .long (hz_l x6)), (8, .int (hz_i x8))] → W p l e (headSpec wsX12_isGood ({ frames := 1, cells := 0, slots := 0, locals := 21 } : Room)).room s m (List.toArray [.ref om, .int (hz_i y1)]) below meth c H locs 0 0 QQ (F0 m 36 ls []), fun _ _ _ => Iff.rfl⟩
      refine (hP36 x4 x6 x8).mp (hw P36 ?_)
      intro x4 x6 x8 hw
      refine (hP36 x4 x6 x8).mpr ?_
      intro H locs ls hP hD hS hl
      refine lv_iload hx hb dX12_isGood_36 (lv_at hl 6 rfl) ?_
      refine lv_iconst (v := hz_i 4) hx hb dX12_isGood_38 (by decide +kernel) ?_
      refine lv_iload_n hx hb dX12_isGood_39 rfl (lv_at hl 3 rfl) ?_
      refine hz_imul hx hb dX12_isGood_40 ?_
      refine lv_aload_n hx hb dX12_isGood_41 rfl (lv_at hl 0 rfl) ?_
      refine lv_iload_n hx hb dX12_isGood_42 rfl (lv_at hl 3 rfl) ?_
      have hFc := mw_free hD hS hA
      refine va_calli (va_runV (As := [.int (hz_i x3)]) (rest := [.int (hz_i (4 * x3)), .int (hz_i x8)]) ⟨hx, hb, hml, hown, hts⟩ (k_movesOf l D _ om R C z A x3 _ hw) (cwV 1 hts gX12_isGood_X12_movesOf rfl rfl rfl (by decide +kernel) ⟨Nat.le_of_ble_eq_true rfl, Nat.le_of_ble_eq_true rfl⟩) ⟨hm_blind, va_recv hK hP (ci := 12) (q0 := 0) rfl rfl, hm_pre hP hK hD hE⟩ rfl rfl hl.1 rfl (lv_room (Nat.le_of_ble_eq_true rfl)) dX12_isGood_43 ⟨Nat.le_of_ble_eq_true rfl, Nat.le_of_ble_eq_true rfl⟩) hS (fun q _ h => hFc q h) hFc (fun rv u t H1 locs ht hvm hw hB hz1 hk1 hS => ?_)
      obtain ⟨r_2, _, _⟩ := u
      obtain ⟨hP, hK1, hD1⟩ := hB
      rw [ht] at hP
      obtain ⟨hrv, hw⟩ := hw
      subst hrv
      have hD := hD1.weaken (fun k q _ h => hFc q.1 h)
      have hP : va_P D vwCl (mw_w om R C z A) H1 := hP
      have hD : va_D Ad (mw_w om R C z A) := hD
      generalize H1 = H at hP hS ⊢
      refine W.eq (g2 := F0 m 46 ls [.int (hz_i r_2), .int (hz_i (4 * x3)), .int (hz_i x8)]) rfl ?_
      refine hz_iadd hx hb dX12_isGood_46 ?_
      obtain ⟨h9a, hw⟩ := hw
      obtain ⟨h9b, hw⟩ := hw
      refine hz_icmp_ge (tgt := 94) hx hb dX12_isGood_47 (by decide) h9a h9b (fun c_3 => ?_) (fun c_3 => ?_)
      · have hw := hw.1 c_3
        refine lv_iload_n hx hb dX12_isGood_94 rfl (lv_at hl 2 rfl) ?_
        obtain ⟨h9a, hw⟩ := hw
        refine hz_if_eq (tgt := 110) hx hb dX12_isGood_95 (by decide) h9a (fun c_4 => ?_) (fun c_4 => ?_)
        · have hw := hw.1 c_4
          exact L110 x3 hw H locs ls hP hD hS (lv_sub hl [0, 1, 3] rfl)
        · have hw := hw.2 c_4
          refine lv_lload hx hb dX12_isGood_98 (lv_at hl 4 rfl) ?_
          refine lv_lload hx hb dX12_isGood_100 (lv_at hl 5 rfl) ?_
          obtain ⟨h9a, hw⟩ := hw
          obtain ⟨h9b, hw⟩ := hw
          refine hz_lcmp_ne (tgt := 110) hx hb dX12_isGood_102 dX12_isGood_103 (by decide) h9a h9b (fun c_5 => ?_) (fun c_5 => ?_)
          · have hw := hw.1 c_5
            exact L110 x3 hw H locs ls hP hD hS (lv_sub hl [0, 1, 3] rfl)
          · have hw := hw.2 c_5
            refine lv_iconst (v := hz_i 1) hx hb dX12_isGood_106 (by decide +kernel) ?_
            refine lv_goto (tgt := 111) hx hb dX12_isGood_107 (by decide) ?_
            exact L111 x3 1 hw H locs ls hP hD hS (lv_sub hl [0, 1, 3] rfl)
      · have hw := hw.2 c_3
        refine lv_lload hx hb dX12_isGood_50 (lv_at hl 4 rfl) ?_
        refine lv_aload_n hx hb dX12_isGood_52 rfl (lv_at hl 0 rfl) ?_
        refine mw_get (v := .ref (R 50)) hx hb hts hin12 hown hK hP 50 (by decide) (hts (.fieldLink RX12 202 "HiddenMovesModel" "wayBottom" "[I") (List.mem_cons_of_mem _ (List.mem_append_left _ (List.mem_of_getElem? (i := 0) rfl)))) (fun _ h9 => h9) rfl dX12_isGood_53 ?_
        refine lv_iload hx hb dX12_isGood_56 (lv_at hl 6 rfl) ?_
        obtain ⟨h9i, hw⟩ := hw
        refine mw_ild (k := 50) (n := 80) (i := x8) hx hb hK hP 37 36 rfl rfl h9i (by decide) dX12_isGood_58 ?_
        obtain ⟨h9a, hw⟩ := hw
        refine hz_wi2l hx hb dX12_isGood_59 h9a ?_
        refine hz_lmul hx hb dX12_isGood_60 ?_
        refine lv_aload_n hx hb dX12_isGood_61 rfl (lv_at hl 0 rfl) ?_
        refine mw_get (v := .ref (R 49)) hx hb hts hin12 hown hK hP 49 (by decide) (hts (.fieldLink RX12 199 "HiddenMovesModel" "wayTop" "[I") (List.mem_cons_of_mem _ (List.mem_append_left _ (List.mem_of_getElem? (i := 1) rfl)))) (fun _ h9 => h9) rfl dX12_isGood_62 ?_
        refine lv_iload hx hb dX12_isGood_65 (lv_at hl 6 rfl) ?_
        obtain ⟨h9i, hw⟩ := hw
        refine mw_ild (k := 49) (n := 80) (i := x8) hx hb hK hP 36 35 rfl rfl h9i (by decide) dX12_isGood_67 ?_
        obtain ⟨h9a, hw⟩ := hw
        refine hz_wi2l hx hb dX12_isGood_68 h9a ?_
        refine lv_lload hx hb dX12_isGood_69 (lv_at hl 5 rfl) ?_
        refine hz_lmul hx hb dX12_isGood_71 ?_
        refine hz_ladd hx hb dX12_isGood_72 ?_
        refine hz_topl (fun x4_6 hx4_6 => ?_)
        have hw := hw x4_6 hx4_6
        refine lv_lstore (lv' := [(4, .long (hz_l x4_6)), (0, .ref om), (1, .int (hz_i y1)), (2, .int (hz_i x2)), (3, .int (hz_i x3)), (6, .long (hz_l x6)), (8, .int (hz_i x8))]) hx hb dX12_isGood_73 hl (by decide) rfl (fun ls hl => ?_)
        refine lv_lload hx hb dX12_isGood_75 (lv_at hl 5 rfl) ?_
        refine lv_aload_n hx hb dX12_isGood_77 rfl (lv_at hl 1 rfl) ?_
        refine mw_get (v := .ref (R 50)) hx hb hts hin12 hown hK hP 50 (by decide) (hts (.fieldLink RX12 202 "HiddenMovesModel" "wayBottom" "[I") (List.mem_cons_of_mem _ (List.mem_append_left _ (List.mem_of_getElem? (i := 0) rfl)))) (fun _ h9 => h9) rfl dX12_isGood_78 ?_
        refine lv_iload hx hb dX12_isGood_81 (lv_at hl 6 rfl) ?_
        obtain ⟨h9i, hw⟩ := hw
        refine mw_ild (k := 50) (n := 80) (i := x8) hx hb hK hP 37 36 rfl rfl h9i (by decide) dX12_isGood_83 ?_
        obtain ⟨h9a, hw⟩ := hw
        refine hz_wi2l hx hb dX12_isGood_84 h9a ?_
        refine hz_lmul hx hb dX12_isGood_85 ?_
        refine hz_topl (fun x6_7 hx6_7 => ?_)
        have hw := hw x6_7 hx6_7
        refine lv_lstore (lv' := [(6, .long (hz_l x6_7)), (4, .long (hz_l x4_6)), (0, .ref om), (1, .int (hz_i y1)), (2, .int (hz_i x2)), (3, .int (hz_i x3)), (8, .int (hz_i x8))]) hx hb dX12_isGood_86 hl (by decide) rfl (fun ls hl => ?_)
        obtain ⟨x8_8, hx8_8⟩ : ∃ y : Int, y = x8 + 1 := ⟨_, rfl⟩
        have hw := hw x8_8 hx8_8
        refine lv_iinc (v := hz_i x8_8) (lv' := [(8, .int (hz_i x8_8)), (6, .long (hz_l x6_7)), (4, .long (hz_l x4_6)), (0, .ref om), (1, .int (hz_i y1)), (2, .int (hz_i x2)), (3, .int (hz_i x3))]) hx hb dX12_isGood_88 hl (k := 6) rfl (by rw [hx8_8]; exact hz_i_add _ _) (by decide) rfl (fun ls hl => ?_)
        refine lv_goto (tgt := 36) hx hb dX12_isGood_91 (by decide) ?_
        exact (hP36 x4_6 x6_7 x8_8).mp hw H locs ls hP hD hS (lv_sub hl [3, 4, 5, 6, 2, 1, 0] rfl)
    refine lv_iload_n hx hb dX12_isGood_9 rfl (lv_at hl 3 rfl) ?_
    refine lv_bipush (v := hz_i 10) hx hb dX12_isGood_10 (by decide +kernel) ?_
    refine lv_iload_n hx hb dX12_isGood_12 rfl (lv_at hl 1 rfl) ?_
    refine lv_iconst (v := hz_i 1) hx hb dX12_isGood_13 (by decide +kernel) ?_
    refine hz_isub hx hb dX12_isGood_14 ?_
    refine hz_imul hx hb dX12_isGood_15 ?_
    refine lv_aload_n hx hb dX12_isGood_16 rfl (lv_at hl 0 rfl) ?_
    refine lv_iload_n hx hb dX12_isGood_17 rfl (lv_at hl 1 rfl) ?_
    have hFc := mw_free hD hS hA
    refine va_calli (va_runV (As := [.int (hz_i y1)]) (rest := [.int (hz_i (10 * (y1 - 1))), .int (hz_i x3)]) ⟨hx, hb, hml, hown, hts⟩ (k_setsOf l D _ om R C z A y1 _ hw) (cwV 1 hts gX12_isGood_X12_setsOf rfl rfl rfl (by decide +kernel) ⟨Nat.le_of_ble_eq_true rfl, Nat.le_of_ble_eq_true rfl⟩) ⟨hm_blind, va_recv hK hP (ci := 12) (q0 := 0) rfl rfl, hm_pre hP hK hD hE⟩ rfl rfl hl.1 rfl (lv_room (Nat.le_of_ble_eq_true rfl)) dX12_isGood_18 ⟨Nat.le_of_ble_eq_true rfl, Nat.le_of_ble_eq_true rfl⟩) hS (fun q _ h => hFc q h) hFc (fun rv u t H1 locs ht hvm hw hB hz1 hk1 hS => ?_)
    obtain ⟨r_9, _, _⟩ := u
    obtain ⟨hP, hK1, hD1⟩ := hB
    rw [ht] at hP
    obtain ⟨hrv, hw⟩ := hw
    subst hrv
    have hD := hD1.weaken (fun k q _ h => hFc q.1 h)
    have hP : va_P D vwCl (mw_w om R C z A) H1 := hP
    have hD : va_D Ad (mw_w om R C z A) := hD
    generalize H1 = H at hP hS ⊢
    refine W.eq (g2 := F0 m 21 ls [.int (hz_i r_9), .int (hz_i (10 * (y1 - 1))), .int (hz_i x3)]) rfl ?_
    refine hz_iadd hx hb dX12_isGood_21 ?_
    obtain ⟨h9a, hw⟩ := hw
    obtain ⟨h9b, hw⟩ := hw
    refine hz_icmp_ge (tgt := 118) hx hb dX12_isGood_22 (by decide) h9a h9b (fun c_10 => ?_) (fun c_10 => ?_)
    · have hw := hw.1 c_10
      refine lv_iload_n hx hb dX12_isGood_118 rfl (lv_at hl 2 rfl) ?_
      obtain ⟨h9z, hw⟩ := hw
      subst hQQ
      subst hAe
      exact W.zret (v := hz_i x2) hx hb hr (hz_tZ h9z) (fun t ht hW => ⟨⟨hz_i x2, (x2, z, A), rfl, ⟨rfl, hw⟩, by rw [ht]; exact hP, va_K.moved hW.alike hK, hD⟩, hS.F ht⟩) hS.2.2 dX12_isGood_119
    · have hw := hw.2 c_10
      refine lv_lconst (v := hz_l 0) hx hb dX12_isGood_25 (by decide +kernel) ?_
      refine lv_lstore (lv' := [(4, .long (hz_l 0)), (0, .ref om), (1, .int (hz_i y1)), (2, .int (hz_i x2)), (3, .int (hz_i x3))]) hx hb dX12_isGood_26 hl (by decide) rfl (fun ls hl => ?_)
      refine lv_lconst (v := hz_l 1) hx hb dX12_isGood_28 (by decide +kernel) ?_
      refine lv_lstore (lv' := [(6, .long (hz_l 1)), (4, .long (hz_l 0)), (0, .ref om), (1, .int (hz_i y1)), (2, .int (hz_i x2)), (3, .int (hz_i x3))]) hx hb dX12_isGood_29 hl (by decide) rfl (fun ls hl => ?_)
      refine lv_iconst (v := hz_i 4) hx hb dX12_isGood_31 (by decide +kernel) ?_
      refine lv_iload_n hx hb dX12_isGood_32 rfl (lv_at hl 5 rfl) ?_
      refine hz_imul hx hb dX12_isGood_33 ?_
      refine hz_topi (fun x8_11 hx8_11 => ?_)
      have hw := hw x8_11 hx8_11
      refine lv_istore (lv' := [(8, .int (hz_i x8_11)), (6, .long (hz_l 1)), (4, .long (hz_l 0)), (0, .ref om), (1, .int (hz_i y1)), (2, .int (hz_i x2)), (3, .int (hz_i x3))]) hx hb dX12_isGood_34 hl (by decide) rfl (fun ls hl => ?_)
      exact L36 x2 x3 0 1 x8_11 hw H locs ls hP hD hS (lv_sub hl [3, 4, 5, 6, 2, 1, 0] rfl)
  have hP := hP0; have hD := hD0; have hS := hS0; have hl := hl0; have hw := hw0
  obtain ⟨H, hH⟩ : ∃ H : Heap, H = s.heap := ⟨_, rfl⟩
  obtain ⟨locs, hlocs⟩ : ∃ L : List Loc, L = [] := ⟨_, rfl⟩
  rw [← hH] at hP
  have hS : va_S Ad s.heap H locs := by rw [hH, hlocs]; exact hS
  refine mw_HL hH hlocs ?_
  refine lv_iconst (v := hz_i 1) hx hb dX12_isGood_0 (by decide +kernel) ?_
  refine lv_istore_n (lv' := [(2, .int (hz_i 1)), (0, .ref om), (1, .int (hz_i y1))]) hx hb dX12_isGood_1 rfl hl (by decide) rfl (fun ls hl => ?_)
  refine lv_bipush (v := hz_i 10) hx hb dX12_isGood_2 (by decide +kernel) ?_
  refine lv_iload_n hx hb dX12_isGood_4 rfl (lv_at hl 2 rfl) ?_
  refine lv_iconst (v := hz_i 1) hx hb dX12_isGood_5 (by decide +kernel) ?_
  refine hz_isub hx hb dX12_isGood_6 ?_
  refine hz_imul hx hb dX12_isGood_7 ?_
  refine hz_topi (fun x3_12 hx3_12 => ?_)
  have hw := hw x3_12 hx3_12
  refine lv_istore_n (lv' := [(3, .int (hz_i x3_12)), (2, .int (hz_i 1)), (0, .ref om), (1, .int (hz_i y1))]) hx hb dX12_isGood_8 rfl hl (by decide) rfl (fun ls hl => ?_)
  exact L9 1 x3_12 hw H locs ls hP hD hS (lv_sub hl [2, 3, 1, 0] rfl)

noncomputable def wp_good_30 (z : Nat → Int) (A : Nat → Nat → Int) (t0 : Int) (Q : Int → (Nat → Int) → Prop) : Prop := Q t0 z
noncomputable def wp_good (z : Nat → Int) (A : Nat → Nat → Int) (y1 : Int) (Q : Int → (Nat → Int) → Prop) : Prop := ∀ z_1 : Nat → Int, z_1 = lp_U z 3 0 → wp_isPlayer z_1 A y1 (fun r_2 => hz_rI r_2 ∧ ((¬ r_2 = 0 → wp_isGood z_1 A y1 (fun r_4 => hz_rI r_4 ∧ ((r_4 = 0 → wp_good_30 z_1 A 0  Q) ∧ (¬ (r_4 = 0) → wp_good_30 z_1 A 1  Q)))) ∧ (r_2 = 0 → wp_good_30 z_1 A (-1)  Q)))
set_option maxHeartbeats 4000000 in
set_option maxRecDepth 100000 in
theorem k_good (l : Launch) (D : va_G) (sz : Nat) (om : Nat) (R : Nat → Nat) (C : Nat → ClassId) (z : Nat → Int) (A : Nat → Nat → Int) (y1 : Int) (Q : Int → (Nat → Int) → Prop) (hw : wp_good z A y1 Q) : Met l yX12_good wsX12_good ({ frames := 2, cells := 0, slots := 0, locals := 49 } : Room) (va_Pc [.ref om, .int (hz_i y1)] (hm_P D (mw_w om R C z A) (mw_t C) sz)) (va_Qi (S := Int × (Nat → Int) × (Nat → Nat → Int)) (fun r u => r = hz_i u.1 ∧ Q u.1 u.2.1) (fun u t => hm_B D (va_A (mw_w om R C z A) sz) (mw_w om R C u.2.1 A) (mw_t C) t) (va_A (mw_w om R C z A) sz)) 0 0 (va_A (mw_w om R C z A) sz) := by
  refine Met.ofW (cc := cX12_good) (maxL := 2) (ret := (some .int)) (by decide) rfl ?_
  intro p e s m args below meth c s₁ B hml hv
  obtain ⟨rfl, hsz, hP, hK, hD0, hE⟩ := hv
  have hx := B.exec
  have hb := B.bytes
  have hr := B.returns
  have hts := atoms_spec (ws := wsX12_good) B.pre
  have hown : s.vm.findClass RX12 = some m.cls := findClass_of_methodNamed B.named
  have hlocks := B.notSynchronized
  have hin12 : ∀ w ∈ u_ws RX12 TX12 58, w ∈ wsX12_good := fun w h => List.mem_cons_of_mem _ (List.mem_append_right _ (h))
  subst hsz
  have hD := hD0.self (sz := s.heap.size)
  generalize hAe : va_A (mw_w om R C z A) s.heap.size = Ad at hD ⊢
  have hA : ∀ q : Nat, s.heap.size ≤ q → Ad q := fun q h => by rw [← hAe]; exact Or.inr h
  have hS : va_S Ad s.heap s.heap [] := va_S.rf
  have hl := lv_entry ([.ref om, .int (hz_i y1)]) (n := 2) (Nat.le_of_ble_eq_true rfl)
  rw [lg_entry_eq]
  generalize (lg_sl ([.ref om, .int (hz_i y1)]) ++ List.replicate (2 - (lg_sl ([.ref om, .int (hz_i y1)])).length) Slot.unset).toArray = ls at hl ⊢
  have hl : lv_has ls 2 [(0, .ref om), (1, .int (hz_i y1))] := hl
  refine mw_Q (fun QQ hQQ => ?_)
  have hP0 := hP; have hD0 := hD; have hS0 := hS; have hl0 := hl; have hw0 := hw
  clear hP hD hS hl hw
  have L30 : ∀ (z : Nat → Int) (t0 : Int), wp_good_30 z A t0  Q → ∀ (H : Heap) (locs : List Loc) (ls : Array Slot), va_P D vwCl (mw_w om R C z A) H → va_D Ad (mw_w om R C z A) → va_S Ad s.heap H locs → lv_has ls 2 [(0, .ref om)] → W p l e (headSpec wsX12_good ({ frames := 2, cells := 0, slots := 0, locals := 49 } : Room)).room s m (List.toArray [.ref om, .int (hz_i y1)]) below meth c H locs 0 0 QQ (F0 m 30 ls [.int (hz_i t0)]) := by
    intro z t0 hw H locs ls hP hD hS hl
    subst hQQ
    subst hAe
    exact W.iret (v := hz_i t0) hx hb hr (fun t ht hW => ⟨⟨hz_i t0, (t0, z, A), rfl, ⟨rfl, hw⟩, by rw [ht]; exact hP, va_K.moved hW.alike hK, hD⟩, hS.F ht⟩) hS.2.2 dX12_good_30
  have hP := hP0; have hD := hD0; have hS := hS0; have hl := hl0; have hw := hw0
  obtain ⟨H, hH⟩ : ∃ H : Heap, H = s.heap := ⟨_, rfl⟩
  obtain ⟨locs, hlocs⟩ : ∃ L : List Loc, L = [] := ⟨_, rfl⟩
  rw [← hH] at hP
  have hS : va_S Ad s.heap H locs := by rw [hH, hlocs]; exact hS
  refine mw_HL hH hlocs ?_
  refine lv_aload_n hx hb dX12_good_0 rfl (lv_at hl 0 rfl) ?_
  refine lv_iconst (v := hz_i 0) hx hb dX12_good_1 (by decide +kernel) ?_
  refine mw_put (ty := .int) (v := .int (hz_i 0)) hx hb hts hin12 hown hK hP hD hS 3 (by decide) (hts (.fieldLink RX12 223 "HiddenMovesModel" "thrown" "I") (List.mem_cons_of_mem _ (List.mem_append_left _ (List.mem_of_getElem? (i := 0) rfl)))) (fun _ h9 => h9) rfl (by decide +kernel) rfl rfl (mw_s3 R z 0) dX12_good_2 (fun H locs hP hD hS => ?_)
  obtain ⟨z_1, hz_1⟩ : ∃ y : Nat → Int, y = lp_U z 3 0 := ⟨_, rfl⟩
  rw [← hz_1] at hP hD
  have hw := hw z_1 hz_1
  refine lv_aload_n hx hb dX12_good_5 rfl (lv_at hl 0 rfl) ?_
  refine lv_iload_n hx hb dX12_good_6 rfl (lv_at hl 1 rfl) ?_
  have hFc := mw_free hD hS hA
  refine va_calli (va_runV (As := [.int (hz_i y1)]) (rest := []) ⟨hx, hb, hml, hown, hts⟩ (k_isPlayer l D _ om R C z_1 A y1 _ hw) (cwV 1 hts gX12_good_X12_isPlayer rfl rfl rfl (by decide +kernel) ⟨Nat.le_of_ble_eq_true rfl, Nat.le_of_ble_eq_true rfl⟩) ⟨hm_blind, va_recv hK hP (ci := 12) (q0 := 0) rfl rfl, hm_pre hP hK hD hE⟩ rfl rfl hl.1 rfl (lv_room (Nat.le_of_ble_eq_true rfl)) dX12_good_7 ⟨Nat.le_of_ble_eq_true rfl, Nat.le_of_ble_eq_true rfl⟩) hS (fun q _ h => hFc q h) hFc (fun rv u t H1 locs ht hvm hw hB hz1 hk1 hS => ?_)
  obtain ⟨r_2, _, _⟩ := u
  obtain ⟨hP, hK1, hD1⟩ := hB
  rw [ht] at hP
  obtain ⟨hrv, hw⟩ := hw
  subst hrv
  have hD := hD1.weaken (fun k q _ h => hFc q.1 h)
  have hP : va_P D vwCl (mw_w om R C z_1 A) H1 := hP
  have hD : va_D Ad (mw_w om R C z_1 A) := hD
  generalize H1 = H at hP hS ⊢
  refine W.eq (g2 := F0 m 10 ls [.int (hz_i r_2)]) rfl ?_
  obtain ⟨h9a, hw⟩ := hw
  refine hz_if_ne (tgt := 17) hx hb dX12_good_10 (by decide) h9a (fun c_3 => ?_) (fun c_3 => ?_)
  · have hw := hw.1 c_3
    refine lv_aload_n hx hb dX12_good_17 rfl (lv_at hl 0 rfl) ?_
    refine lv_iload_n hx hb dX12_good_18 rfl (lv_at hl 1 rfl) ?_
    have hFc := mw_free hD hS hA
    refine va_calli (va_runV (As := [.int (hz_i y1)]) (rest := []) ⟨hx, hb, hml, hown, hts⟩ (k_isGood l D _ om R C z_1 A y1 _ hw) (cwV 1 hts gX12_good_X12_isGood rfl rfl rfl (by decide +kernel) ⟨Nat.le_of_ble_eq_true rfl, Nat.le_of_ble_eq_true rfl⟩) ⟨hm_blind, va_recv hK hP (ci := 12) (q0 := 0) rfl rfl, hm_pre hP hK hD hE⟩ rfl rfl hl.1 rfl (lv_room (Nat.le_of_ble_eq_true rfl)) dX12_good_19 ⟨Nat.le_of_ble_eq_true rfl, Nat.le_of_ble_eq_true rfl⟩) hS (fun q _ h => hFc q h) hFc (fun rv u t H1 locs ht hvm hw hB hz1 hk1 hS => ?_)
    obtain ⟨r_4, _, _⟩ := u
    obtain ⟨hP, hK1, hD1⟩ := hB
    rw [ht] at hP
    obtain ⟨hrv, hw⟩ := hw
    subst hrv
    have hD := hD1.weaken (fun k q _ h => hFc q.1 h)
    have hP : va_P D vwCl (mw_w om R C z_1 A) H1 := hP
    have hD : va_D Ad (mw_w om R C z_1 A) := hD
    generalize H1 = H at hP hS ⊢
    refine W.eq (g2 := F0 m 22 ls [.int (hz_i r_4)]) rfl ?_
    obtain ⟨h9a, hw⟩ := hw
    refine hz_if_eq (tgt := 29) hx hb dX12_good_22 (by decide) h9a (fun c_5 => ?_) (fun c_5 => ?_)
    · have hw := hw.1 c_5
      refine lv_iconst (v := hz_i 0) hx hb dX12_good_29 (by decide +kernel) ?_
      exact L30 z_1 0 hw H locs ls hP hD hS (lv_sub hl [0] rfl)
    · have hw := hw.2 c_5
      refine lv_iconst (v := hz_i 1) hx hb dX12_good_25 (by decide +kernel) ?_
      refine lv_goto (tgt := 30) hx hb dX12_good_26 (by decide) ?_
      exact L30 z_1 1 hw H locs ls hP hD hS (lv_sub hl [0] rfl)
  · have hw := hw.2 c_3
    refine lv_iconst (v := hz_i (-1)) hx hb dX12_good_13 (by decide +kernel) ?_
    refine lv_goto (tgt := 30) hx hb dX12_good_14 (by decide) ?_
    exact L30 z_1 (-1) hw H locs ls hP hD hS (lv_sub hl [0] rfl)

noncomputable def wp_expectAll_185 (z : Nat → Int) (A : Nat → Nat → Int) (y1 : Int) (y2 : Int) (x3 : Int) (x4 : Int) (P18 : (Nat → Nat → Int) → Int → Prop) (P70 : (Nat → Nat → Int) → Int → Prop) (Q : (Nat → Nat → Int) → Prop) : Prop := ∀ x4_1 : Int, x4_1 = x4 + 1 → P70 A x4_1
noncomputable def wp_expectAll_152 (z : Nat → Int) (A : Nat → Nat → Int) (y1 : Int) (y2 : Int) (x3 : Int) (x4 : Int) (x5 : Int) (x6 : Int) (P18 : (Nat → Nat → Int) → Int → Prop) (P70 : (Nat → Nat → Int) → Int → Prop) (Q : (Nat → Nat → Int) → Prop) : Prop := (0 ≤ (4 * x5) + x6 ∧ (4 * x5) + x6 < 80) ∧ hz_rI (A 49 (((4 * x5) + x6).toNat)) ∧ (0 ≤ (4 * x5) + x6 ∧ (4 * x5) + x6 < 80) ∧ hz_rI (A 50 (((4 * x5) + x6).toNat)) ∧ wp_times z A 4241 (A 49 (((4 * x5) + x6).toNat)) (A 50 (((4 * x5) + x6).toNat)) (fun A_3 => wp_expectAll_185 z A_3 y1 y2 x3 x4 P18 P70 Q)
noncomputable def wp_expectAll_145 (z : Nat → Int) (A : Nat → Nat → Int) (y1 : Int) (y2 : Int) (x3 : Int) (x4 : Int) (t0 : Int) (t1 : Int) (P18 : (Nat → Nat → Int) → Int → Prop) (P70 : (Nat → Nat → Int) → Int → Prop) (Q : (Nat → Nat → Int) → Prop) : Prop := wp_times z A t1 t0 1 (fun A_5 => wp_expectAll_185 z A_5 y1 y2 x3 x4 P18 P70 Q)
noncomputable def wp_expectAll_124 (z : Nat → Int) (A : Nat → Nat → Int) (y1 : Int) (y2 : Int) (x3 : Int) (x4 : Int) (x5 : Int) (x6 : Int) (P18 : (Nat → Nat → Int) → Int → Prop) (P70 : (Nat → Nat → Int) → Int → Prop) (Q : (Nat → Nat → Int) → Prop) : Prop := (0 ≤ x5 ∧ x5 < 20) ∧ hz_rI (A 52 (x5.toNat)) ∧ hz_rI x6 ∧ ((¬ A 52 (x5.toNat) = x6 → wp_expectAll_145 z A y1 y2 x3 x4 0 4241 P18 P70 Q) ∧ (A 52 (x5.toNat) = x6 → wp_expectAll_145 z A y1 y2 x3 x4 1 4241 P18 P70 Q))
noncomputable def wp_expectAll_70 (z : Nat → Int) (A : Nat → Nat → Int) (y1 : Int) (y2 : Int) (x3 : Int) (x4 : Int) (P18 : (Nat → Nat → Int) → Int → Prop) (Q : (Nat → Nat → Int) → Prop) : Prop := ∀ P70 : (Nat → Nat → Int) → Int → Prop, (∀ (A : Nat → Nat → Int) (x4 : Int), (0 ≤ x3 ∧ x3 < 800) ∧ (0 ≤ x3 ∧ x3 < 800) ∧ hz_rI x4 ∧ hz_rI ((A 20 (x3.toNat)) + (A 21 (x3.toNat))) ∧ (((A 20 (x3.toNat)) + (A 21 (x3.toNat)) ≤ x4 → wp_addFraction z A 4239 4241 (fun A_9 => ∀ x3_10 : Int, x3_10 = x3 + 1 → P18 A_9 x3_10)) ∧ (¬ ((A 20 (x3.toNat)) + (A 21 (x3.toNat)) ≤ x4) → (0 ≤ x4 ∧ x4 < 16000) ∧ ∀ x5_11 : Int, x5_11 = A 22 (x4.toNat) → (0 ≤ x4 ∧ x4 < 16000) ∧ ∀ x6_12 : Int, x6_12 = A 23 (x4.toNat) → hz_rI x5_11 ∧ ((10 ≤ x5_11 → hz_rI y2 ∧ ((y2 = 0 → wp_expectAll_152 z A y1 y2 x3 x4 x5_11 x6_12 P18 P70 Q) ∧ (¬ (y2 = 0) → wp_expectAll_124 z A y1 y2 x3 x4 x5_11 x6_12 P18 P70 Q))) ∧ (¬ (10 ≤ x5_11) → hz_rI y1 ∧ ((y1 = 0 → wp_expectAll_152 z A y1 y2 x3 x4 x5_11 x6_12 P18 P70 Q) ∧ (¬ (y1 = 0) → wp_expectAll_124 z A y1 y2 x3 x4 x5_11 x6_12 P18 P70 Q)))))) → P70 A x4) → P70 A x4
noncomputable def wp_expectAll_18 (z : Nat → Int) (A : Nat → Nat → Int) (y1 : Int) (y2 : Int) (x3 : Int) (Q : (Nat → Nat → Int) → Prop) : Prop := ∀ P18 : (Nat → Nat → Int) → Int → Prop, (∀ (A : Nat → Nat → Int) (x3 : Int), (0 ≤ z 32 ∧ z 32 < 2) ∧ hz_rI x3 ∧ hz_rI ((400 * (z 32)) + (A 14 ((z 32).toNat))) ∧ (((400 * (z 32)) + (A 14 ((z 32).toNat)) ≤ x3 → Q A) ∧ (¬ ((400 * (z 32)) + (A 14 ((z 32).toNat)) ≤ x3) → (0 ≤ x3 ∧ x3 < 800) ∧ (0 ≤ z 32 ∧ z 32 < 2) ∧ wp_setFraction z A 4241 (A 19 (x3.toNat)) (A 25 ((z 32).toNat)) (fun A_18 => (0 ≤ x3 ∧ x3 < 800) ∧ ∀ x4_19 : Int, x4_19 = A_18 20 (x3.toNat) → wp_expectAll_70 z A_18 y1 y2 x3 x4_19 P18 Q))) → P18 A x3) → P18 A x3
noncomputable def wp_expectAll (z : Nat → Int) (A : Nat → Nat → Int) (y1 : Int) (y2 : Int) (Q : (Nat → Nat → Int) → Prop) : Prop := wp_setFraction z A 4239 0 1 (fun A_21 => ∀ x3_22 : Int, x3_22 = 400 * (z 32) → wp_expectAll_18 z A_21 y1 y2 x3_22  Q)
set_option maxHeartbeats 4000000 in
set_option maxRecDepth 100000 in
theorem k_expectAll (l : Launch) (D : va_G) (sz : Nat) (om : Nat) (R : Nat → Nat) (C : Nat → ClassId) (z : Nat → Int) (A : Nat → Nat → Int) (y1 : Int) (y2 : Int) (Q : (Nat → Nat → Int) → Prop) (hw : wp_expectAll z A y1 y2 Q) : Met l yX12_expectAll wsX12_expectAll ({ frames := 7, cells := 0, slots := 0, locals := 175 } : Room) (va_Pc [.ref om, .int (hz_i y1), .int (hz_i y2)] (hm_P D (mw_w om R C z A) (mw_t C) sz)) (va_Qv (S := Int × (Nat → Int) × (Nat → Nat → Int)) (fun u => Q u.2.2) (fun u t => hm_B D (va_A (mw_w om R C z A) sz) (mw_w om R C z u.2.2) (mw_t C) t) (va_A (mw_w om R C z A) sz)) 0 0 (va_A (mw_w om R C z A) sz) := by
  refine Met.ofW (cc := cX12_expectAll) (maxL := 7) (ret := none) (by decide) rfl ?_
  intro p e s m args below meth c s₁ B hml hv
  obtain ⟨rfl, hsz, hP, hK, hD0, hE⟩ := hv
  have hx := B.exec
  have hb := B.bytes
  have hr := B.returns
  have hts := atoms_spec (ws := wsX12_expectAll) B.pre
  have hown : s.vm.findClass RX12 = some m.cls := findClass_of_methodNamed B.named
  have hlocks := B.notSynchronized
  have hin12 : ∀ w ∈ u_ws RX12 TX12 58, w ∈ wsX12_expectAll := fun w h => List.mem_cons_of_mem _ (List.mem_append_right _ (h))
  subst hsz
  have hD := hD0.self (sz := s.heap.size)
  generalize hAe : va_A (mw_w om R C z A) s.heap.size = Ad at hD ⊢
  have hA : ∀ q : Nat, s.heap.size ≤ q → Ad q := fun q h => by rw [← hAe]; exact Or.inr h
  have hS : va_S Ad s.heap s.heap [] := va_S.rf
  have hl := lv_entry ([.ref om, .int (hz_i y1), .int (hz_i y2)]) (n := 7) (Nat.le_of_ble_eq_true rfl)
  rw [lg_entry_eq]
  generalize (lg_sl ([.ref om, .int (hz_i y1), .int (hz_i y2)]) ++ List.replicate (7 - (lg_sl ([.ref om, .int (hz_i y1), .int (hz_i y2)])).length) Slot.unset).toArray = ls at hl ⊢
  have hl : lv_has ls 7 [(0, .ref om), (1, .int (hz_i y1)), (2, .int (hz_i y2))] := hl
  refine mw_Q (fun QQ hQQ => ?_)
  have hP0 := hP; have hD0 := hD; have hS0 := hS; have hl0 := hl; have hw0 := hw
  clear hP hD hS hl hw
  have L18 : ∀ (A : Nat → Nat → Int) (x3 : Int), wp_expectAll_18 z A y1 y2 x3  Q → ∀ (H : Heap) (locs : List Loc) (ls : Array Slot), va_P D vwCl (mw_w om R C z A) H → va_D Ad (mw_w om R C z A) → va_S Ad s.heap H locs → lv_has ls 7 [(0, .ref om), (1, .int (hz_i y1)), (2, .int (hz_i y2)), (3, .int (hz_i x3))] → W p l e (headSpec wsX12_expectAll ({ frames := 7, cells := 0, slots := 0, locals := 175 } : Room)).room s m (List.toArray [.ref om, .int (hz_i y1), .int (hz_i y2)]) below meth c H locs 0 0 QQ (F0 m 18 ls []) := by
    intro A x3 hw
    obtain ⟨P18, hP18⟩ : ∃ P : (Nat → Nat → Int) → Int → Prop, ∀ (A : Nat → Nat → Int) (x3 : Int), P A x3 ↔ (∀ (H : Heap) (locs : List Loc) (ls : Array Slot), va_P D vwCl (mw_w om R C z A) H → va_D Ad (mw_w om R C z A) → va_S Ad s.heap H locs → lv_has ls 7 [(0, .ref om), (1, .int (hz_i y1)), (2, .int (hz_i y2)), (3, .int (hz_i x3))] → W p l e (headSpec wsX12_expectAll ({ frames := 7, cells := 0, slots := 0, locals := 175 } : Room)).room s m (List.toArray [.ref om, .int (hz_i y1), .int (hz_i y2)]) below meth c H locs 0 0 QQ (F0 m 18 ls [])) := ⟨fun (A : Nat → Nat → Int) (x3 : Int) => ∀ (H : Heap) (locs : List Loc) (ls : Array Slot), va_P D vwCl (mw_w om R C z A) H → va_D Ad (mw_w om R C z A) → va_S Ad s.heap H locs → lv_has ls 7 [(0, .ref om), (1, .int (hz_i y1)), (2, .int (hz_i y2)), (3, .int (hz_i x3))] → W p l e (headSpec wsX12_expectAll ({ frames := 7, cells := 0, slots := 0, locals := 175 } : Room)).room s m (List.toArray [.ref om, .int (hz_i y1), .int (hz_i y2)]) below meth c H locs 0 0 QQ (F0 m 18 ls []), fun _ _ => Iff.rfl⟩
    refine (hP18 A x3).mp (hw P18 ?_)
    intro A x3 hw
    refine (hP18 A x3).mpr ?_
    intro H locs ls hP hD hS hl
    have L70 : ∀ (A : Nat → Nat → Int) (x3 : Int) (x4 : Int), wp_expectAll_70 z A y1 y2 x3 x4 P18 Q → ∀ (H : Heap) (locs : List Loc) (ls : Array Slot), va_P D vwCl (mw_w om R C z A) H → va_D Ad (mw_w om R C z A) → va_S Ad s.heap H locs → lv_has ls 7 [(0, .ref om), (1, .int (hz_i y1)), (2, .int (hz_i y2)), (3, .int (hz_i x3)), (4, .int (hz_i x4))] → W p l e (headSpec wsX12_expectAll ({ frames := 7, cells := 0, slots := 0, locals := 175 } : Room)).room s m (List.toArray [.ref om, .int (hz_i y1), .int (hz_i y2)]) below meth c H locs 0 0 QQ (F0 m 70 ls []) := by
      intro A x3 x4 hw
      obtain ⟨P70, hP70⟩ : ∃ P : (Nat → Nat → Int) → Int → Prop, ∀ (A : Nat → Nat → Int) (x4 : Int), P A x4 ↔ (∀ (H : Heap) (locs : List Loc) (ls : Array Slot), va_P D vwCl (mw_w om R C z A) H → va_D Ad (mw_w om R C z A) → va_S Ad s.heap H locs → lv_has ls 7 [(0, .ref om), (1, .int (hz_i y1)), (2, .int (hz_i y2)), (3, .int (hz_i x3)), (4, .int (hz_i x4))] → W p l e (headSpec wsX12_expectAll ({ frames := 7, cells := 0, slots := 0, locals := 175 } : Room)).room s m (List.toArray [.ref om, .int (hz_i y1), .int (hz_i y2)]) below meth c H locs 0 0 QQ (F0 m 70 ls [])) := ⟨fun (A : Nat → Nat → Int) (x4 : Int) => ∀ (H : Heap) (locs : List Loc) (ls : Array Slot), va_P D vwCl (mw_w om R C z A) H → va_D Ad (mw_w om R C z A) → va_S Ad s.heap H locs → lv_has ls 7 [(0, .ref om), (1, .int (hz_i y1)), (2, .int (hz_i y2)), (3, .int (hz_i x3)), (4, .int (hz_i x4))] → W p l e (headSpec wsX12_expectAll ({ frames := 7, cells := 0, slots := 0, locals := 175 } : Room)).room s m (List.toArray [.ref om, .int (hz_i y1), .int (hz_i y2)]) below meth c H locs 0 0 QQ (F0 m 70 ls []), fun _ _ => Iff.rfl⟩
      refine (hP70 A x4).mp (hw P70 ?_)
      intro A x4 hw
      refine (hP70 A x4).mpr ?_
      intro H locs ls hP hD hS hl
      have L185 : ∀ (A : Nat → Nat → Int) (x4 : Int), wp_expectAll_185 z A y1 y2 x3 x4 P18 P70 Q → ∀ (H : Heap) (locs : List Loc) (ls : Array Slot), va_P D vwCl (mw_w om R C z A) H → va_D Ad (mw_w om R C z A) → va_S Ad s.heap H locs → lv_has ls 7 [(0, .ref om), (1, .int (hz_i y1)), (2, .int (hz_i y2)), (3, .int (hz_i x3)), (4, .int (hz_i x4))] → W p l e (headSpec wsX12_expectAll ({ frames := 7, cells := 0, slots := 0, locals := 175 } : Room)).room s m (List.toArray [.ref om, .int (hz_i y1), .int (hz_i y2)]) below meth c H locs 0 0 QQ (F0 m 185 ls []) := by
        intro A x4 hw H locs ls hP hD hS hl
        obtain ⟨x4_1, hx4_1⟩ : ∃ y : Int, y = x4 + 1 := ⟨_, rfl⟩
        have hw := hw x4_1 hx4_1
        refine lv_iinc (v := hz_i x4_1) (lv' := [(4, .int (hz_i x4_1)), (0, .ref om), (1, .int (hz_i y1)), (2, .int (hz_i y2)), (3, .int (hz_i x3))]) hx hb dX12_expectAll_185 hl (k := 4) rfl (by rw [hx4_1]; exact hz_i_add _ _) (by decide) rfl (fun ls hl => ?_)
        refine lv_goto (tgt := 70) hx hb dX12_expectAll_188 (by decide) ?_
        exact (hP70 A x4_1).mp hw H locs ls hP hD hS (lv_sub hl [1, 2, 3, 4, 0] rfl)
      have L152 : ∀ (A : Nat → Nat → Int) (x4 : Int) (x5 : Int) (x6 : Int), wp_expectAll_152 z A y1 y2 x3 x4 x5 x6 P18 P70 Q → ∀ (H : Heap) (locs : List Loc) (ls : Array Slot), va_P D vwCl (mw_w om R C z A) H → va_D Ad (mw_w om R C z A) → va_S Ad s.heap H locs → lv_has ls 7 [(0, .ref om), (1, .int (hz_i y1)), (2, .int (hz_i y2)), (3, .int (hz_i x3)), (4, .int (hz_i x4)), (5, .int (hz_i x5)), (6, .int (hz_i x6))] → W p l e (headSpec wsX12_expectAll ({ frames := 7, cells := 0, slots := 0, locals := 175 } : Room)).room s m (List.toArray [.ref om, .int (hz_i y1), .int (hz_i y2)]) below meth c H locs 0 0 QQ (F0 m 152 ls []) := by
        intro A x4 x5 x6 hw H locs ls hP hD hS hl
        refine lv_aload_n hx hb dX12_expectAll_152 rfl (lv_at hl 0 rfl) ?_
        refine lv_sipush (v := hz_i 4241) hx hb dX12_expectAll_153 (by decide +kernel) ?_
        refine lv_aload_n hx hb dX12_expectAll_156 rfl (lv_at hl 0 rfl) ?_
        refine mw_get (v := .ref (R 49)) hx hb hts hin12 hown hK hP 49 (by decide) (hts (.fieldLink RX12 199 "HiddenMovesModel" "wayTop" "[I") (List.mem_cons_of_mem _ (List.mem_append_left _ (List.mem_append_left _ (List.mem_of_getElem? (i := 9) rfl))))) (fun _ h9 => h9) rfl dX12_expectAll_157 ?_
        refine lv_iconst (v := hz_i 4) hx hb dX12_expectAll_160 (by decide +kernel) ?_
        refine lv_iload hx hb dX12_expectAll_161 (lv_at hl 5 rfl) ?_
        refine hz_imul hx hb dX12_expectAll_163 ?_
        refine lv_iload hx hb dX12_expectAll_164 (lv_at hl 6 rfl) ?_
        refine hz_iadd hx hb dX12_expectAll_166 ?_
        obtain ⟨h9i, hw⟩ := hw
        refine mw_ild (k := 49) (n := 80) (i := (4 * x5) + x6) hx hb hK hP 36 35 rfl rfl h9i (by decide) dX12_expectAll_167 ?_
        obtain ⟨h9a, hw⟩ := hw
        refine hz_wi2l hx hb dX12_expectAll_168 h9a ?_
        refine lv_aload_n hx hb dX12_expectAll_169 rfl (lv_at hl 0 rfl) ?_
        refine mw_get (v := .ref (R 50)) hx hb hts hin12 hown hK hP 50 (by decide) (hts (.fieldLink RX12 202 "HiddenMovesModel" "wayBottom" "[I") (List.mem_cons_of_mem _ (List.mem_append_left _ (List.mem_append_left _ (List.mem_of_getElem? (i := 10) rfl))))) (fun _ h9 => h9) rfl dX12_expectAll_170 ?_
        refine lv_iconst (v := hz_i 4) hx hb dX12_expectAll_173 (by decide +kernel) ?_
        refine lv_iload hx hb dX12_expectAll_174 (lv_at hl 5 rfl) ?_
        refine hz_imul hx hb dX12_expectAll_176 ?_
        refine lv_iload hx hb dX12_expectAll_177 (lv_at hl 6 rfl) ?_
        refine hz_iadd hx hb dX12_expectAll_179 ?_
        obtain ⟨h9i, hw⟩ := hw
        refine mw_ild (k := 50) (n := 80) (i := (4 * x5) + x6) hx hb hK hP 37 36 rfl rfl h9i (by decide) dX12_expectAll_180 ?_
        obtain ⟨h9a, hw⟩ := hw
        refine hz_wi2l hx hb dX12_expectAll_181 h9a ?_
        have hFc := mw_free hD hS hA
        refine va_callv (va_runV (As := [.int (hz_i 4241), .long (hz_l (A 49 (((4 * x5) + x6).toNat))), .long (hz_l (A 50 (((4 * x5) + x6).toNat)))]) (rest := []) ⟨hx, hb, hml, hown, hts⟩ (k_times l D _ om R C z A 4241 (A 49 (((4 * x5) + x6).toNat)) (A 50 (((4 * x5) + x6).toNat)) _ hw) (cwV 3 hts gX12_expectAll_X12_times rfl rfl rfl (by decide +kernel) ⟨Nat.le_of_ble_eq_true rfl, Nat.le_of_ble_eq_true rfl⟩) ⟨hm_blind, va_recv hK hP (ci := 12) (q0 := 0) rfl rfl, hm_pre hP hK hD hE⟩ rfl rfl hl.1 rfl (lv_room (Nat.le_of_ble_eq_true rfl)) dX12_expectAll_182 ⟨Nat.le_of_ble_eq_true rfl, Nat.le_of_ble_eq_true rfl⟩) hS (fun q _ h => hFc q h) hFc (fun u t H1 locs ht hvm hw hB hz1 hk1 hS => ?_)
        obtain ⟨r_2, _, A_3⟩ := u
        obtain ⟨hP, hK1, hD1⟩ := hB
        rw [ht] at hP
        have hD := hD1.weaken (fun k q _ h => hFc q.1 h)
        have hP : va_P D vwCl (mw_w om R C z A_3) H1 := hP
        have hD : va_D Ad (mw_w om R C z A_3) := hD
        generalize H1 = H at hP hS ⊢
        refine W.eq (g2 := F0 m 185 ls []) rfl ?_
        exact L185 A_3 x4 hw H locs ls hP hD hS (lv_sub hl [0, 1, 2, 3, 4] rfl)
      have L145 : ∀ (A : Nat → Nat → Int) (x4 : Int) (t0 : Int) (t1 : Int), wp_expectAll_145 z A y1 y2 x3 x4 t0 t1 P18 P70 Q → ∀ (H : Heap) (locs : List Loc) (ls : Array Slot), va_P D vwCl (mw_w om R C z A) H → va_D Ad (mw_w om R C z A) → va_S Ad s.heap H locs → lv_has ls 7 [(0, .ref om), (1, .int (hz_i y1)), (2, .int (hz_i y2)), (3, .int (hz_i x3)), (4, .int (hz_i x4))] → W p l e (headSpec wsX12_expectAll ({ frames := 7, cells := 0, slots := 0, locals := 175 } : Room)).room s m (List.toArray [.ref om, .int (hz_i y1), .int (hz_i y2)]) below meth c H locs 0 0 QQ (F0 m 145 ls [.long (hz_l t0), .int (hz_i t1), .ref om]) := by
        intro A x4 t0 t1 hw H locs ls hP hD hS hl
        refine lv_lconst (v := hz_l 1) hx hb dX12_expectAll_145 (by decide +kernel) ?_
        have hFc := mw_free hD hS hA
        refine va_callv (va_runV (As := [.int (hz_i t1), .long (hz_l t0), .long (hz_l 1)]) (rest := []) ⟨hx, hb, hml, hown, hts⟩ (k_times l D _ om R C z A t1 t0 1 _ hw) (cwV 3 hts gX12_expectAll_X12_times rfl rfl rfl (by decide +kernel) ⟨Nat.le_of_ble_eq_true rfl, Nat.le_of_ble_eq_true rfl⟩) ⟨hm_blind, va_recv hK hP (ci := 12) (q0 := 0) rfl rfl, hm_pre hP hK hD hE⟩ rfl rfl hl.1 rfl (lv_room (Nat.le_of_ble_eq_true rfl)) dX12_expectAll_146 ⟨Nat.le_of_ble_eq_true rfl, Nat.le_of_ble_eq_true rfl⟩) hS (fun q _ h => hFc q h) hFc (fun u t H1 locs ht hvm hw hB hz1 hk1 hS => ?_)
        obtain ⟨r_4, _, A_5⟩ := u
        obtain ⟨hP, hK1, hD1⟩ := hB
        rw [ht] at hP
        have hD := hD1.weaken (fun k q _ h => hFc q.1 h)
        have hP : va_P D vwCl (mw_w om R C z A_5) H1 := hP
        have hD : va_D Ad (mw_w om R C z A_5) := hD
        generalize H1 = H at hP hS ⊢
        refine W.eq (g2 := F0 m 149 ls []) rfl ?_
        refine lv_goto (tgt := 185) hx hb dX12_expectAll_149 (by decide) ?_
        exact L185 A_5 x4 hw H locs ls hP hD hS (lv_sub hl [0, 1, 2, 3, 4] rfl)
      have L124 : ∀ (A : Nat → Nat → Int) (x4 : Int) (x5 : Int) (x6 : Int), wp_expectAll_124 z A y1 y2 x3 x4 x5 x6 P18 P70 Q → ∀ (H : Heap) (locs : List Loc) (ls : Array Slot), va_P D vwCl (mw_w om R C z A) H → va_D Ad (mw_w om R C z A) → va_S Ad s.heap H locs → lv_has ls 7 [(0, .ref om), (1, .int (hz_i y1)), (2, .int (hz_i y2)), (3, .int (hz_i x3)), (4, .int (hz_i x4)), (5, .int (hz_i x5)), (6, .int (hz_i x6))] → W p l e (headSpec wsX12_expectAll ({ frames := 7, cells := 0, slots := 0, locals := 175 } : Room)).room s m (List.toArray [.ref om, .int (hz_i y1), .int (hz_i y2)]) below meth c H locs 0 0 QQ (F0 m 124 ls []) := by
        intro A x4 x5 x6 hw H locs ls hP hD hS hl
        refine lv_aload_n hx hb dX12_expectAll_124 rfl (lv_at hl 0 rfl) ?_
        refine lv_sipush (v := hz_i 4241) hx hb dX12_expectAll_125 (by decide +kernel) ?_
        refine lv_aload_n hx hb dX12_expectAll_128 rfl (lv_at hl 0 rfl) ?_
        refine mw_get (v := .ref (R 52)) hx hb hts hin12 hown hK hP 52 (by decide) (hts (.fieldLink RX12 208 "HiddenMovesModel" "plan" "[I") (List.mem_cons_of_mem _ (List.mem_append_left _ (List.mem_append_left _ (List.mem_of_getElem? (i := 8) rfl))))) (fun _ h9 => h9) rfl dX12_expectAll_129 ?_
        refine lv_iload hx hb dX12_expectAll_132 (lv_at hl 5 rfl) ?_
        obtain ⟨h9i, hw⟩ := hw
        refine mw_ild (k := 52) (n := 20) (i := x5) hx hb hK hP 39 38 rfl rfl h9i (by decide) dX12_expectAll_134 ?_
        refine lv_iload hx hb dX12_expectAll_135 (lv_at hl 6 rfl) ?_
        obtain ⟨h9a, hw⟩ := hw
        obtain ⟨h9b, hw⟩ := hw
        refine hz_icmp_ne (tgt := 144) hx hb dX12_expectAll_137 (by decide) h9a h9b (fun c_6 => ?_) (fun c_6 => ?_)
        · have hw := hw.1 c_6
          refine lv_lconst (v := hz_l 0) hx hb dX12_expectAll_144 (by decide +kernel) ?_
          exact L145 A x4 0 4241 hw H locs ls hP hD hS (lv_sub hl [0, 1, 2, 3, 4] rfl)
        · have hw := hw.2 c_6
          refine lv_lconst (v := hz_l 1) hx hb dX12_expectAll_140 (by decide +kernel) ?_
          refine lv_goto (tgt := 145) hx hb dX12_expectAll_141 (by decide) ?_
          exact L145 A x4 1 4241 hw H locs ls hP hD hS (lv_sub hl [0, 1, 2, 3, 4] rfl)
      refine lv_iload hx hb dX12_expectAll_70 (lv_at hl 4 rfl) ?_
      refine lv_aload_n hx hb dX12_expectAll_72 rfl (lv_at hl 0 rfl) ?_
      refine mw_get (v := .ref (R 20)) hx hb hts hin12 hown hK hP 20 (by decide) (hts (.fieldLink RX12 136 "HiddenMovesModel" "wayFrom" "[I") (List.mem_cons_of_mem _ (List.mem_append_left _ (List.mem_append_left _ (List.mem_of_getElem? (i := 4) rfl))))) (fun _ h9 => h9) rfl dX12_expectAll_73 ?_
      refine lv_iload_n hx hb dX12_expectAll_76 rfl (lv_at hl 3 rfl) ?_
      obtain ⟨h9i, hw⟩ := hw
      refine mw_ild (k := 20) (n := 800) (i := x3) hx hb hK hP 16 15 rfl rfl h9i (by decide) dX12_expectAll_77 ?_
      refine lv_aload_n hx hb dX12_expectAll_78 rfl (lv_at hl 0 rfl) ?_
      refine mw_get (v := .ref (R 21)) hx hb hts hin12 hown hK hP 21 (by decide) (hts (.fieldLink RX12 139 "HiddenMovesModel" "wayMany" "[I") (List.mem_cons_of_mem _ (List.mem_append_left _ (List.mem_append_left _ (List.mem_of_getElem? (i := 5) rfl))))) (fun _ h9 => h9) rfl dX12_expectAll_79 ?_
      refine lv_iload_n hx hb dX12_expectAll_82 rfl (lv_at hl 3 rfl) ?_
      obtain ⟨h9i, hw⟩ := hw
      refine mw_ild (k := 21) (n := 800) (i := x3) hx hb hK hP 17 16 rfl rfl h9i (by decide) dX12_expectAll_83 ?_
      refine hz_iadd hx hb dX12_expectAll_84 ?_
      obtain ⟨h9a, hw⟩ := hw
      obtain ⟨h9b, hw⟩ := hw
      refine hz_icmp_ge (tgt := 191) hx hb dX12_expectAll_85 (by decide) h9a h9b (fun c_7 => ?_) (fun c_7 => ?_)
      · have hw := hw.1 c_7
        refine lv_aload_n hx hb dX12_expectAll_191 rfl (lv_at hl 0 rfl) ?_
        refine lv_sipush (v := hz_i 4239) hx hb dX12_expectAll_192 (by decide +kernel) ?_
        refine lv_sipush (v := hz_i 4241) hx hb dX12_expectAll_195 (by decide +kernel) ?_
        have hFc := mw_free hD hS hA
        refine va_callv (va_runV (As := [.int (hz_i 4239), .int (hz_i 4241)]) (rest := []) ⟨hx, hb, hml, hown, hts⟩ (k_addFraction l D _ om R C z A 4239 4241 _ hw) (cwV 2 hts gX12_expectAll_X12_addFraction rfl rfl rfl (by decide +kernel) ⟨Nat.le_of_ble_eq_true rfl, Nat.le_of_ble_eq_true rfl⟩) ⟨hm_blind, va_recv hK hP (ci := 12) (q0 := 0) rfl rfl, hm_pre hP hK hD hE⟩ rfl rfl hl.1 rfl (lv_room (Nat.le_of_ble_eq_true rfl)) dX12_expectAll_198 ⟨Nat.le_of_ble_eq_true rfl, Nat.le_of_ble_eq_true rfl⟩) hS (fun q _ h => hFc q h) hFc (fun u t H1 locs ht hvm hw hB hz1 hk1 hS => ?_)
        obtain ⟨r_8, _, A_9⟩ := u
        obtain ⟨hP, hK1, hD1⟩ := hB
        rw [ht] at hP
        have hD := hD1.weaken (fun k q _ h => hFc q.1 h)
        have hP : va_P D vwCl (mw_w om R C z A_9) H1 := hP
        have hD : va_D Ad (mw_w om R C z A_9) := hD
        generalize H1 = H at hP hS ⊢
        refine W.eq (g2 := F0 m 201 ls []) rfl ?_
        obtain ⟨x3_10, hx3_10⟩ : ∃ y : Int, y = x3 + 1 := ⟨_, rfl⟩
        have hw := hw x3_10 hx3_10
        refine lv_iinc (v := hz_i x3_10) (lv' := [(3, .int (hz_i x3_10)), (0, .ref om), (1, .int (hz_i y1)), (2, .int (hz_i y2)), (4, .int (hz_i x4))]) hx hb dX12_expectAll_201 hl (k := 3) rfl (by rw [hx3_10]; exact hz_i_add _ _) (by decide) rfl (fun ls hl => ?_)
        refine lv_goto (tgt := 18) hx hb dX12_expectAll_204 (by decide) ?_
        exact (hP18 A_9 x3_10).mp hw H locs ls hP hD hS (lv_sub hl [1, 2, 3, 0] rfl)
      · have hw := hw.2 c_7
        refine lv_aload_n hx hb dX12_expectAll_88 rfl (lv_at hl 0 rfl) ?_
        refine mw_get (v := .ref (R 22)) hx hb hts hin12 hown hK hP 22 (by decide) (hts (.fieldLink RX12 142 "HiddenMovesModel" "waySet" "[I") (List.mem_cons_of_mem _ (List.mem_append_left _ (List.mem_append_left _ (List.mem_of_getElem? (i := 6) rfl))))) (fun _ h9 => h9) rfl dX12_expectAll_89 ?_
        refine lv_iload hx hb dX12_expectAll_92 (lv_at hl 4 rfl) ?_
        obtain ⟨h9i, hw⟩ := hw
        refine mw_ild (k := 22) (n := 16000) (i := x4) hx hb hK hP 18 17 rfl rfl h9i (by decide) dX12_expectAll_94 ?_
        refine hz_topi (fun x5_11 hx5_11 => ?_)
        have hw := hw x5_11 hx5_11
        refine lv_istore (lv' := [(5, .int (hz_i x5_11)), (0, .ref om), (1, .int (hz_i y1)), (2, .int (hz_i y2)), (3, .int (hz_i x3)), (4, .int (hz_i x4))]) hx hb dX12_expectAll_95 hl (by decide) rfl (fun ls hl => ?_)
        refine lv_aload_n hx hb dX12_expectAll_97 rfl (lv_at hl 1 rfl) ?_
        refine mw_get (v := .ref (R 23)) hx hb hts hin12 hown hK hP 23 (by decide) (hts (.fieldLink RX12 145 "HiddenMovesModel" "wayMove" "[I") (List.mem_cons_of_mem _ (List.mem_append_left _ (List.mem_append_left _ (List.mem_of_getElem? (i := 7) rfl))))) (fun _ h9 => h9) rfl dX12_expectAll_98 ?_
        refine lv_iload hx hb dX12_expectAll_101 (lv_at hl 5 rfl) ?_
        obtain ⟨h9i, hw⟩ := hw
        refine mw_ild (k := 23) (n := 16000) (i := x4) hx hb hK hP 19 18 rfl rfl h9i (by decide) dX12_expectAll_103 ?_
        refine hz_topi (fun x6_12 hx6_12 => ?_)
        have hw := hw x6_12 hx6_12
        refine lv_istore (lv' := [(6, .int (hz_i x6_12)), (5, .int (hz_i x5_11)), (0, .ref om), (1, .int (hz_i y1)), (2, .int (hz_i y2)), (3, .int (hz_i x3)), (4, .int (hz_i x4))]) hx hb dX12_expectAll_104 hl (by decide) rfl (fun ls hl => ?_)
        refine lv_iload hx hb dX12_expectAll_106 (lv_at hl 1 rfl) ?_
        refine lv_bipush (v := hz_i 10) hx hb dX12_expectAll_108 (by decide +kernel) ?_
        obtain ⟨h9a, hw⟩ := hw
        refine hz_icmp_ge (tgt := 120) hx hb dX12_expectAll_110 (by decide) h9a ⟨by decide, by decide⟩ (fun c_13 => ?_) (fun c_13 => ?_)
        · have hw := hw.1 c_13
          refine lv_iload_n hx hb dX12_expectAll_120 rfl (lv_at hl 4 rfl) ?_
          obtain ⟨h9a, hw⟩ := hw
          refine hz_if_eq (tgt := 152) hx hb dX12_expectAll_121 (by decide) h9a (fun c_14 => ?_) (fun c_14 => ?_)
          · have hw := hw.1 c_14
            exact L152 A x4 x5_11 x6_12 hw H locs ls hP hD hS (lv_sub hl [2, 3, 4, 5, 6, 1, 0] rfl)
          · have hw := hw.2 c_14
            exact L124 A x4 x5_11 x6_12 hw H locs ls hP hD hS (lv_sub hl [2, 3, 4, 5, 6, 1, 0] rfl)
        · have hw := hw.2 c_13
          refine lv_iload_n hx hb dX12_expectAll_113 rfl (lv_at hl 3 rfl) ?_
          obtain ⟨h9a, hw⟩ := hw
          refine hz_if_eq (tgt := 152) hx hb dX12_expectAll_114 (by decide) h9a (fun c_15 => ?_) (fun c_15 => ?_)
          · have hw := hw.1 c_15
            exact L152 A x4 x5_11 x6_12 hw H locs ls hP hD hS (lv_sub hl [2, 3, 4, 5, 6, 1, 0] rfl)
          · have hw := hw.2 c_15
            refine lv_goto (tgt := 124) hx hb dX12_expectAll_117 (by decide) ?_
            exact L124 A x4 x5_11 x6_12 hw H locs ls hP hD hS (lv_sub hl [2, 3, 4, 5, 6, 1, 0] rfl)
    refine lv_iload_n hx hb dX12_expectAll_18 rfl (lv_at hl 3 rfl) ?_
    refine lv_sipush (v := hz_i 400) hx hb dX12_expectAll_19 (by decide +kernel) ?_
    refine lv_aload_n hx hb dX12_expectAll_22 rfl (lv_at hl 0 rfl) ?_
    refine mw_get (v := .int (hz_i (z 32))) hx hb hts hin12 hown hK hP 32 (by decide) (hts (.fieldLink RX12 328 "HiddenMovesModel" "game" "I") (List.mem_cons_of_mem _ (List.mem_append_left _ (List.mem_append_left _ (List.mem_of_getElem? (i := 0) rfl))))) (fun _ h9 => h9) rfl dX12_expectAll_23 ?_
    refine hz_imul hx hb dX12_expectAll_26 ?_
    refine lv_aload_n hx hb dX12_expectAll_27 rfl (lv_at hl 0 rfl) ?_
    refine mw_get (v := .ref (R 14)) hx hb hts hin12 hown hK hP 14 (by decide) (hts (.fieldLink RX12 117 "HiddenMovesModel" "ends" "[I") (List.mem_cons_of_mem _ (List.mem_append_left _ (List.mem_append_left _ (List.mem_of_getElem? (i := 1) rfl))))) (fun _ h9 => h9) rfl dX12_expectAll_28 ?_
    refine lv_aload_n hx hb dX12_expectAll_31 rfl (lv_at hl 0 rfl) ?_
    refine mw_get (v := .int (hz_i (z 32))) hx hb hts hin12 hown hK hP 32 (by decide) (hts (.fieldLink RX12 328 "HiddenMovesModel" "game" "I") (List.mem_cons_of_mem _ (List.mem_append_left _ (List.mem_append_left _ (List.mem_of_getElem? (i := 0) rfl))))) (fun _ h9 => h9) rfl dX12_expectAll_32 ?_
    obtain ⟨h9i, hw⟩ := hw
    refine mw_ild (k := 14) (n := 2) (i := z 32) hx hb hK hP 10 9 rfl rfl h9i (by decide) dX12_expectAll_35 ?_
    refine hz_iadd hx hb dX12_expectAll_36 ?_
    obtain ⟨h9a, hw⟩ := hw
    obtain ⟨h9b, hw⟩ := hw
    refine hz_icmp_ge (tgt := 207) hx hb dX12_expectAll_37 (by decide) h9a h9b (fun c_16 => ?_) (fun c_16 => ?_)
    · have hw := hw.1 c_16
      subst hQQ
      subst hAe
      exact W.vret hx hb hr (fun t ht hW => ⟨⟨(0, z, A), rfl, hw, by rw [ht]; exact hP, va_K.moved hW.alike hK, hD⟩, hS.F ht⟩) hS.2.2 dX12_expectAll_207
    · have hw := hw.2 c_16
      refine lv_aload_n hx hb dX12_expectAll_40 rfl (lv_at hl 0 rfl) ?_
      refine lv_sipush (v := hz_i 4241) hx hb dX12_expectAll_41 (by decide +kernel) ?_
      refine lv_aload_n hx hb dX12_expectAll_44 rfl (lv_at hl 0 rfl) ?_
      refine mw_get (v := .ref (R 19)) hx hb hts hin12 hown hK hP 19 (by decide) (hts (.fieldLink RX12 133 "HiddenMovesModel" "weight" "[J") (List.mem_cons_of_mem _ (List.mem_append_left _ (List.mem_append_left _ (List.mem_of_getElem? (i := 2) rfl))))) (fun _ h9 => h9) rfl dX12_expectAll_45 ?_
      refine lv_iload_n hx hb dX12_expectAll_48 rfl (lv_at hl 3 rfl) ?_
      obtain ⟨h9i, hw⟩ := hw
      refine mw_lld (k := 19) (n := 800) (i := x3) hx hb hK hP 15 14 rfl rfl h9i (by decide) dX12_expectAll_49 ?_
      refine lv_aload_n hx hb dX12_expectAll_50 rfl (lv_at hl 0 rfl) ?_
      refine mw_get (v := .ref (R 25)) hx hb hts hin12 hown hK hP 25 (by decide) (hts (.fieldLink RX12 151 "HiddenMovesModel" "common" "[J") (List.mem_cons_of_mem _ (List.mem_append_left _ (List.mem_append_left _ (List.mem_of_getElem? (i := 3) rfl))))) (fun _ h9 => h9) rfl dX12_expectAll_51 ?_
      refine lv_aload_n hx hb dX12_expectAll_54 rfl (lv_at hl 0 rfl) ?_
      refine mw_get (v := .int (hz_i (z 32))) hx hb hts hin12 hown hK hP 32 (by decide) (hts (.fieldLink RX12 328 "HiddenMovesModel" "game" "I") (List.mem_cons_of_mem _ (List.mem_append_left _ (List.mem_append_left _ (List.mem_of_getElem? (i := 0) rfl))))) (fun _ h9 => h9) rfl dX12_expectAll_55 ?_
      obtain ⟨h9i, hw⟩ := hw
      refine mw_lld (k := 25) (n := 2) (i := z 32) hx hb hK hP 21 20 rfl rfl h9i (by decide) dX12_expectAll_58 ?_
      have hFc := mw_free hD hS hA
      refine va_callv (va_runV (As := [.int (hz_i 4241), .long (hz_l (A 19 (x3.toNat))), .long (hz_l (A 25 ((z 32).toNat)))]) (rest := []) ⟨hx, hb, hml, hown, hts⟩ (k_setFraction l D _ om R C z A 4241 (A 19 (x3.toNat)) (A 25 ((z 32).toNat)) _ hw) (cwV 3 hts gX12_expectAll_X12_setFraction rfl rfl rfl (by decide +kernel) ⟨Nat.le_of_ble_eq_true rfl, Nat.le_of_ble_eq_true rfl⟩) ⟨hm_blind, va_recv hK hP (ci := 12) (q0 := 0) rfl rfl, hm_pre hP hK hD hE⟩ rfl rfl hl.1 rfl (lv_room (Nat.le_of_ble_eq_true rfl)) dX12_expectAll_59 ⟨Nat.le_of_ble_eq_true rfl, Nat.le_of_ble_eq_true rfl⟩) hS (fun q _ h => hFc q h) hFc (fun u t H1 locs ht hvm hw hB hz1 hk1 hS => ?_)
      obtain ⟨r_17, _, A_18⟩ := u
      obtain ⟨hP, hK1, hD1⟩ := hB
      rw [ht] at hP
      have hD := hD1.weaken (fun k q _ h => hFc q.1 h)
      have hP : va_P D vwCl (mw_w om R C z A_18) H1 := hP
      have hD : va_D Ad (mw_w om R C z A_18) := hD
      generalize H1 = H at hP hS ⊢
      refine W.eq (g2 := F0 m 62 ls []) rfl ?_
      refine lv_aload_n hx hb dX12_expectAll_62 rfl (lv_at hl 0 rfl) ?_
      refine mw_get (v := .ref (R 20)) hx hb hts hin12 hown hK hP 20 (by decide) (hts (.fieldLink RX12 136 "HiddenMovesModel" "wayFrom" "[I") (List.mem_cons_of_mem _ (List.mem_append_left _ (List.mem_append_left _ (List.mem_of_getElem? (i := 4) rfl))))) (fun _ h9 => h9) rfl dX12_expectAll_63 ?_
      refine lv_iload_n hx hb dX12_expectAll_66 rfl (lv_at hl 3 rfl) ?_
      obtain ⟨h9i, hw⟩ := hw
      refine mw_ild (k := 20) (n := 800) (i := x3) hx hb hK hP 16 15 rfl rfl h9i (by decide) dX12_expectAll_67 ?_
      refine hz_topi (fun x4_19 hx4_19 => ?_)
      have hw := hw x4_19 hx4_19
      refine lv_istore (lv' := [(4, .int (hz_i x4_19)), (0, .ref om), (1, .int (hz_i y1)), (2, .int (hz_i y2)), (3, .int (hz_i x3))]) hx hb dX12_expectAll_68 hl (by decide) rfl (fun ls hl => ?_)
      exact L70 A_18 x3 x4_19 hw H locs ls hP hD hS (lv_sub hl [1, 2, 3, 4, 0] rfl)
  have hP := hP0; have hD := hD0; have hS := hS0; have hl := hl0; have hw := hw0
  obtain ⟨H, hH⟩ : ∃ H : Heap, H = s.heap := ⟨_, rfl⟩
  obtain ⟨locs, hlocs⟩ : ∃ L : List Loc, L = [] := ⟨_, rfl⟩
  rw [← hH] at hP
  have hS : va_S Ad s.heap H locs := by rw [hH, hlocs]; exact hS
  refine mw_HL hH hlocs ?_
  refine lv_aload_n hx hb dX12_expectAll_0 rfl (lv_at hl 0 rfl) ?_
  refine lv_sipush (v := hz_i 4239) hx hb dX12_expectAll_1 (by decide +kernel) ?_
  refine lv_lconst (v := hz_l 0) hx hb dX12_expectAll_4 (by decide +kernel) ?_
  refine lv_lconst (v := hz_l 1) hx hb dX12_expectAll_5 (by decide +kernel) ?_
  have hFc := mw_free hD hS hA
  refine va_callv (va_runV (As := [.int (hz_i 4239), .long (hz_l 0), .long (hz_l 1)]) (rest := []) ⟨hx, hb, hml, hown, hts⟩ (k_setFraction l D _ om R C z A 4239 0 1 _ hw) (cwV 3 hts gX12_expectAll_X12_setFraction rfl rfl rfl (by decide +kernel) ⟨Nat.le_of_ble_eq_true rfl, Nat.le_of_ble_eq_true rfl⟩) ⟨hm_blind, va_recv hK hP (ci := 12) (q0 := 0) rfl rfl, hm_pre hP hK hD hE⟩ rfl rfl hl.1 rfl (lv_room (Nat.le_of_ble_eq_true rfl)) dX12_expectAll_6 ⟨Nat.le_of_ble_eq_true rfl, Nat.le_of_ble_eq_true rfl⟩) hS (fun q _ h => hFc q h) hFc (fun u t H1 locs ht hvm hw hB hz1 hk1 hS => ?_)
  obtain ⟨r_20, _, A_21⟩ := u
  obtain ⟨hP, hK1, hD1⟩ := hB
  rw [ht] at hP
  have hD := hD1.weaken (fun k q _ h => hFc q.1 h)
  have hP : va_P D vwCl (mw_w om R C z A_21) H1 := hP
  have hD : va_D Ad (mw_w om R C z A_21) := hD
  generalize H1 = H at hP hS ⊢
  refine W.eq (g2 := F0 m 9 ls []) rfl ?_
  refine lv_sipush (v := hz_i 400) hx hb dX12_expectAll_9 (by decide +kernel) ?_
  refine lv_aload_n hx hb dX12_expectAll_12 rfl (lv_at hl 0 rfl) ?_
  refine mw_get (v := .int (hz_i (z 32))) hx hb hts hin12 hown hK hP 32 (by decide) (hts (.fieldLink RX12 328 "HiddenMovesModel" "game" "I") (List.mem_cons_of_mem _ (List.mem_append_left _ (List.mem_append_left _ (List.mem_of_getElem? (i := 0) rfl))))) (fun _ h9 => h9) rfl dX12_expectAll_13 ?_
  refine hz_imul hx hb dX12_expectAll_16 ?_
  refine hz_topi (fun x3_22 hx3_22 => ?_)
  have hw := hw x3_22 hx3_22
  refine lv_istore_n (lv' := [(3, .int (hz_i x3_22)), (0, .ref om), (1, .int (hz_i y1)), (2, .int (hz_i y2))]) hx hb dX12_expectAll_17 rfl hl (by decide) rfl (fun ls hl => ?_)
  exact L18 A_21 x3_22 hw H locs ls hP hD hS (lv_sub hl [1, 2, 3, 0] rfl)

noncomputable def wp_keep (z : Nat → Int) (A : Nat → Nat → Int) (y1 : Int) (Q : (Nat → Nat → Int) → Prop) : Prop := wp_bigCopy z A (4231 + (2 * y1)) 4239 (fun A_2 => wp_bigCopy z A_2 ((4231 + (2 * y1)) + 1) 4240 (fun A_4 => (0 ≤ y1 ∧ y1 < 4) ∧ ∀ A_5 : Nat → Nat → Int, A_5 = hz_s A_4 51 y1 1 → Q A_5))
set_option maxHeartbeats 4000000 in
set_option maxRecDepth 100000 in
theorem k_keep (l : Launch) (D : va_G) (sz : Nat) (om : Nat) (R : Nat → Nat) (C : Nat → ClassId) (z : Nat → Int) (A : Nat → Nat → Int) (y1 : Int) (Q : (Nat → Nat → Int) → Prop) (hw : wp_keep z A y1 Q) : Met l yX12_keep wsX12_keep ({ frames := 2, cells := 0, slots := 0, locals := 43 } : Room) (va_Pc [.ref om, .int (hz_i y1)] (hm_P D (mw_w om R C z A) (mw_t C) sz)) (va_Qv (S := Int × (Nat → Int) × (Nat → Nat → Int)) (fun u => Q u.2.2) (fun u t => hm_B D (va_A (mw_w om R C z A) sz) (mw_w om R C z u.2.2) (mw_t C) t) (va_A (mw_w om R C z A) sz)) 0 0 (va_A (mw_w om R C z A) sz) := by
  refine Met.ofW (cc := cX12_keep) (maxL := 2) (ret := none) (by decide) rfl ?_
  intro p e s m args below meth c s₁ B hml hv
  obtain ⟨rfl, hsz, hP, hK, hD0, hE⟩ := hv
  have hx := B.exec
  have hb := B.bytes
  have hr := B.returns
  have hts := atoms_spec (ws := wsX12_keep) B.pre
  have hown : s.vm.findClass RX12 = some m.cls := findClass_of_methodNamed B.named
  have hlocks := B.notSynchronized
  have hin12 : ∀ w ∈ u_ws RX12 TX12 58, w ∈ wsX12_keep := fun w h => List.mem_cons_of_mem _ (List.mem_append_right _ (h))
  subst hsz
  have hD := hD0.self (sz := s.heap.size)
  generalize hAe : va_A (mw_w om R C z A) s.heap.size = Ad at hD ⊢
  have hA : ∀ q : Nat, s.heap.size ≤ q → Ad q := fun q h => by rw [← hAe]; exact Or.inr h
  have hS : va_S Ad s.heap s.heap [] := va_S.rf
  have hl := lv_entry ([.ref om, .int (hz_i y1)]) (n := 2) (Nat.le_of_ble_eq_true rfl)
  rw [lg_entry_eq]
  generalize (lg_sl ([.ref om, .int (hz_i y1)]) ++ List.replicate (2 - (lg_sl ([.ref om, .int (hz_i y1)])).length) Slot.unset).toArray = ls at hl ⊢
  have hl : lv_has ls 2 [(0, .ref om), (1, .int (hz_i y1))] := hl
  refine mw_Q (fun QQ hQQ => ?_)
  have hP0 := hP; have hD0 := hD; have hS0 := hS; have hl0 := hl; have hw0 := hw
  clear hP hD hS hl hw
  have hP := hP0; have hD := hD0; have hS := hS0; have hl := hl0; have hw := hw0
  obtain ⟨H, hH⟩ : ∃ H : Heap, H = s.heap := ⟨_, rfl⟩
  obtain ⟨locs, hlocs⟩ : ∃ L : List Loc, L = [] := ⟨_, rfl⟩
  rw [← hH] at hP
  have hS : va_S Ad s.heap H locs := by rw [hH, hlocs]; exact hS
  refine mw_HL hH hlocs ?_
  refine lv_aload_n hx hb dX12_keep_0 rfl (lv_at hl 0 rfl) ?_
  refine lv_sipush (v := hz_i 4231) hx hb dX12_keep_1 (by decide +kernel) ?_
  refine lv_iconst (v := hz_i 2) hx hb dX12_keep_4 (by decide +kernel) ?_
  refine lv_iload_n hx hb dX12_keep_5 rfl (lv_at hl 1 rfl) ?_
  refine hz_imul hx hb dX12_keep_6 ?_
  refine hz_iadd hx hb dX12_keep_7 ?_
  refine lv_sipush (v := hz_i 4239) hx hb dX12_keep_8 (by decide +kernel) ?_
  have hFc := mw_free hD hS hA
  refine va_callv (va_runV (As := [.int (hz_i (4231 + (2 * y1))), .int (hz_i 4239)]) (rest := []) ⟨hx, hb, hml, hown, hts⟩ (k_bigCopy l D _ om R C z A (4231 + (2 * y1)) 4239 _ hw) (cwV 2 hts gX12_keep_X12_bigCopy rfl rfl rfl (by decide +kernel) ⟨Nat.le_of_ble_eq_true rfl, Nat.le_of_ble_eq_true rfl⟩) ⟨hm_blind, va_recv hK hP (ci := 12) (q0 := 0) rfl rfl, hm_pre hP hK hD hE⟩ rfl rfl hl.1 rfl (lv_room (Nat.le_of_ble_eq_true rfl)) dX12_keep_11 ⟨Nat.le_of_ble_eq_true rfl, Nat.le_of_ble_eq_true rfl⟩) hS (fun q _ h => hFc q h) hFc (fun u t H1 locs ht hvm hw hB hz1 hk1 hS => ?_)
  obtain ⟨r_1, _, A_2⟩ := u
  obtain ⟨hP, hK1, hD1⟩ := hB
  rw [ht] at hP
  have hD := hD1.weaken (fun k q _ h => hFc q.1 h)
  have hP : va_P D vwCl (mw_w om R C z A_2) H1 := hP
  have hD : va_D Ad (mw_w om R C z A_2) := hD
  generalize H1 = H at hP hS ⊢
  refine W.eq (g2 := F0 m 14 ls []) rfl ?_
  refine lv_aload_n hx hb dX12_keep_14 rfl (lv_at hl 0 rfl) ?_
  refine lv_sipush (v := hz_i 4231) hx hb dX12_keep_15 (by decide +kernel) ?_
  refine lv_iconst (v := hz_i 2) hx hb dX12_keep_18 (by decide +kernel) ?_
  refine lv_iload_n hx hb dX12_keep_19 rfl (lv_at hl 1 rfl) ?_
  refine hz_imul hx hb dX12_keep_20 ?_
  refine hz_iadd hx hb dX12_keep_21 ?_
  refine lv_iconst (v := hz_i 1) hx hb dX12_keep_22 (by decide +kernel) ?_
  refine hz_iadd hx hb dX12_keep_23 ?_
  refine lv_sipush (v := hz_i 4240) hx hb dX12_keep_24 (by decide +kernel) ?_
  have hFc := mw_free hD hS hA
  refine va_callv (va_runV (As := [.int (hz_i ((4231 + (2 * y1)) + 1)), .int (hz_i 4240)]) (rest := []) ⟨hx, hb, hml, hown, hts⟩ (k_bigCopy l D _ om R C z A_2 ((4231 + (2 * y1)) + 1) 4240 _ hw) (cwV 2 hts gX12_keep_X12_bigCopy rfl rfl rfl (by decide +kernel) ⟨Nat.le_of_ble_eq_true rfl, Nat.le_of_ble_eq_true rfl⟩) ⟨hm_blind, va_recv hK hP (ci := 12) (q0 := 0) rfl rfl, hm_pre hP hK hD hE⟩ rfl rfl hl.1 rfl (lv_room (Nat.le_of_ble_eq_true rfl)) dX12_keep_27 ⟨Nat.le_of_ble_eq_true rfl, Nat.le_of_ble_eq_true rfl⟩) hS (fun q _ h => hFc q h) hFc (fun u t H1 locs ht hvm hw hB hz1 hk1 hS => ?_)
  obtain ⟨r_3, _, A_4⟩ := u
  obtain ⟨hP, hK1, hD1⟩ := hB
  rw [ht] at hP
  have hD := hD1.weaken (fun k q _ h => hFc q.1 h)
  have hP : va_P D vwCl (mw_w om R C z A_4) H1 := hP
  have hD : va_D Ad (mw_w om R C z A_4) := hD
  generalize H1 = H at hP hS ⊢
  refine W.eq (g2 := F0 m 30 ls []) rfl ?_
  refine lv_aload_n hx hb dX12_keep_30 rfl (lv_at hl 0 rfl) ?_
  refine mw_get (v := .ref (R 51)) hx hb hts hin12 hown hK hP 51 (by decide) (hts (.fieldLink RX12 205 "HiddenMovesModel" "isThere" "[Z") (List.mem_cons_of_mem _ (List.mem_append_left _ (List.mem_of_getElem? (i := 0) rfl)))) (fun _ h9 => h9) rfl dX12_keep_31 ?_
  refine lv_iload_n hx hb dX12_keep_34 rfl (lv_at hl 1 rfl) ?_
  refine lv_iconst (v := hz_i 1) hx hb dX12_keep_35 (by decide +kernel) ?_
  obtain ⟨h9i, hw⟩ := hw
  refine mw_zst (k := 51) (n := 4) (i := y1) (v := 1) hx hb hK hP hD hS 38 37 rfl rfl (mw_a51 om R C z A_4) h9i (by decide) (by decide) dX12_keep_36 (fun H locs hP hD hS => ?_)
  obtain ⟨A_5, hA_5⟩ : ∃ y : Nat → Nat → Int, y = hz_s A_4 51 y1 1 := ⟨_, rfl⟩
  rw [← hA_5] at hP hD
  have hw := hw A_5 hA_5
  subst hQQ
  subst hAe
  exact W.vret hx hb hr (fun t ht hW => ⟨⟨(0, z, A_5), rfl, hw, by rw [ht]; exact hP, va_K.moved hW.alike hK, hD⟩, hS.F ht⟩) hS.2.2 dX12_keep_37

noncomputable def wp_expect_50 (z : Nat → Int) (A : Nat → Nat → Int) (Q : (Nat → Int) → (Nat → Nat → Int) → Prop) : Prop := Q z A
noncomputable def wp_expect_29 (z : Nat → Int) (A : Nat → Nat → Int) (t0 : Int) (Q : (Nat → Int) → (Nat → Nat → Int) → Prop) : Prop := ∀ z_1 : Nat → Int, z_1 = lp_U z 3 t0 → hz_rI (z_1 3) ∧ ((¬ z_1 3 = 0 → wp_expect_50 z_1 A  Q) ∧ (z_1 3 = 0 → wp_expectAll z_1 A 0 0 (fun A_4 => wp_keep z_1 A_4 1 (fun A_6 => wp_expect_50 z_1 A_6  Q))))
noncomputable def wp_expect_28 (z : Nat → Int) (A : Nat → Nat → Int) (Q : (Nat → Int) → (Nat → Nat → Int) → Prop) : Prop := wp_expect_29 z A 1  Q
noncomputable def wp_expect (z : Nat → Int) (A : Nat → Nat → Int) (Q : (Nat → Int) → (Nat → Nat → Int) → Prop) : Prop := hz_rI (z 34) ∧ ((z 34 = 0 → wp_expect_28 z A  Q) ∧ (¬ (z 34 = 0) → wp_isGood z A 1 (fun r_8 => hz_rI r_8 ∧ ((r_8 = 0 → wp_expect_28 z A  Q) ∧ (¬ (r_8 = 0) → wp_isGood z A 2 (fun r_10 => hz_rI r_10 ∧ ((r_10 = 0 → wp_expect_28 z A  Q) ∧ (¬ (r_10 = 0) → wp_expect_29 z A 0  Q))))))))
set_option maxHeartbeats 4000000 in
set_option maxRecDepth 100000 in
theorem k_expect (l : Launch) (D : va_G) (sz : Nat) (om : Nat) (R : Nat → Nat) (C : Nat → ClassId) (z : Nat → Int) (A : Nat → Nat → Int) (Q : (Nat → Int) → (Nat → Nat → Int) → Prop) (hw : wp_expect z A Q) : Met l yX12_expect wsX12_expect ({ frames := 8, cells := 0, slots := 0, locals := 201 } : Room) (va_Pc [.ref om] (hm_P D (mw_w om R C z A) (mw_t C) sz)) (va_Qv (S := Int × (Nat → Int) × (Nat → Nat → Int)) (fun u => Q u.2.1 u.2.2) (fun u t => hm_B D (va_A (mw_w om R C z A) sz) (mw_w om R C u.2.1 u.2.2) (mw_t C) t) (va_A (mw_w om R C z A) sz)) 0 0 (va_A (mw_w om R C z A) sz) := by
  refine Met.ofW (cc := cX12_expect) (maxL := 1) (ret := none) (by decide) rfl ?_
  intro p e s m args below meth c s₁ B hml hv
  obtain ⟨rfl, hsz, hP, hK, hD0, hE⟩ := hv
  have hx := B.exec
  have hb := B.bytes
  have hr := B.returns
  have hts := atoms_spec (ws := wsX12_expect) B.pre
  have hown : s.vm.findClass RX12 = some m.cls := findClass_of_methodNamed B.named
  have hlocks := B.notSynchronized
  have hin12 : ∀ w ∈ u_ws RX12 TX12 58, w ∈ wsX12_expect := fun w h => List.mem_cons_of_mem _ (List.mem_append_right _ (h))
  subst hsz
  have hD := hD0.self (sz := s.heap.size)
  generalize hAe : va_A (mw_w om R C z A) s.heap.size = Ad at hD ⊢
  have hA : ∀ q : Nat, s.heap.size ≤ q → Ad q := fun q h => by rw [← hAe]; exact Or.inr h
  have hS : va_S Ad s.heap s.heap [] := va_S.rf
  have hl := lv_entry ([.ref om]) (n := 1) (Nat.le_of_ble_eq_true rfl)
  rw [lg_entry_eq]
  generalize (lg_sl ([.ref om]) ++ List.replicate (1 - (lg_sl ([.ref om])).length) Slot.unset).toArray = ls at hl ⊢
  have hl : lv_has ls 1 [(0, .ref om)] := hl
  refine mw_Q (fun QQ hQQ => ?_)
  have hP0 := hP; have hD0 := hD; have hS0 := hS; have hl0 := hl; have hw0 := hw
  clear hP hD hS hl hw
  have L50 : ∀ (z : Nat → Int) (A : Nat → Nat → Int), wp_expect_50 z A  Q → ∀ (H : Heap) (locs : List Loc) (ls : Array Slot), va_P D vwCl (mw_w om R C z A) H → va_D Ad (mw_w om R C z A) → va_S Ad s.heap H locs → lv_has ls 1 [(0, .ref om)] → W p l e (headSpec wsX12_expect ({ frames := 8, cells := 0, slots := 0, locals := 201 } : Room)).room s m (List.toArray [.ref om]) below meth c H locs 0 0 QQ (F0 m 50 ls []) := by
    intro z A hw H locs ls hP hD hS hl
    subst hQQ
    subst hAe
    exact W.vret hx hb hr (fun t ht hW => ⟨⟨(0, z, A), rfl, hw, by rw [ht]; exact hP, va_K.moved hW.alike hK, hD⟩, hS.F ht⟩) hS.2.2 dX12_expect_50
  have L29 : ∀ (z : Nat → Int) (A : Nat → Nat → Int) (t0 : Int), wp_expect_29 z A t0  Q → ∀ (H : Heap) (locs : List Loc) (ls : Array Slot), va_P D vwCl (mw_w om R C z A) H → va_D Ad (mw_w om R C z A) → va_S Ad s.heap H locs → lv_has ls 1 [(0, .ref om)] → W p l e (headSpec wsX12_expect ({ frames := 8, cells := 0, slots := 0, locals := 201 } : Room)).room s m (List.toArray [.ref om]) below meth c H locs 0 0 QQ (F0 m 29 ls [.int (hz_i t0), .ref om]) := by
    intro z A t0 hw H locs ls hP hD hS hl
    refine mw_put (ty := .int) (v := .int (hz_i t0)) hx hb hts hin12 hown hK hP hD hS 3 (by decide) (hts (.fieldLink RX12 223 "HiddenMovesModel" "thrown" "I") (List.mem_cons_of_mem _ (List.mem_append_left _ (List.mem_append_left _ (List.mem_of_getElem? (i := 1) rfl))))) (fun _ h9 => h9) rfl (by decide +kernel) rfl rfl (mw_s3 R z t0) dX12_expect_29 (fun H locs hP hD hS => ?_)
    obtain ⟨z_1, hz_1⟩ : ∃ y : Nat → Int, y = lp_U z 3 t0 := ⟨_, rfl⟩
    rw [← hz_1] at hP hD
    have hw := hw z_1 hz_1
    refine lv_aload_n hx hb dX12_expect_32 rfl (lv_at hl 0 rfl) ?_
    refine mw_get (v := .int (hz_i (z_1 3))) hx hb hts hin12 hown hK hP 3 (by decide) (hts (.fieldLink RX12 223 "HiddenMovesModel" "thrown" "I") (List.mem_cons_of_mem _ (List.mem_append_left _ (List.mem_append_left _ (List.mem_of_getElem? (i := 1) rfl))))) (fun _ h9 => h9) rfl dX12_expect_33 ?_
    obtain ⟨h9a, hw⟩ := hw
    refine hz_if_ne (tgt := 50) hx hb dX12_expect_36 (by decide) h9a (fun c_2 => ?_) (fun c_2 => ?_)
    · have hw := hw.1 c_2
      exact L50 z_1 A hw H locs ls hP hD hS (lv_sub hl [0] rfl)
    · have hw := hw.2 c_2
      refine lv_aload_n hx hb dX12_expect_39 rfl (lv_at hl 0 rfl) ?_
      refine lv_iconst (v := hz_i 0) hx hb dX12_expect_40 (by decide +kernel) ?_
      refine lv_iconst (v := hz_i 0) hx hb dX12_expect_41 (by decide +kernel) ?_
      have hFc := mw_free hD hS hA
      refine va_callv (va_runV (As := [.int (hz_i 0), .int (hz_i 0)]) (rest := []) ⟨hx, hb, hml, hown, hts⟩ (k_expectAll l D _ om R C z_1 A 0 0 _ hw) (cwV 2 hts gX12_expect_X12_expectAll rfl rfl rfl (by decide +kernel) ⟨Nat.le_of_ble_eq_true rfl, Nat.le_of_ble_eq_true rfl⟩) ⟨hm_blind, va_recv hK hP (ci := 12) (q0 := 0) rfl rfl, hm_pre hP hK hD hE⟩ rfl rfl hl.1 rfl (lv_room (Nat.le_of_ble_eq_true rfl)) dX12_expect_42 ⟨Nat.le_of_ble_eq_true rfl, Nat.le_of_ble_eq_true rfl⟩) hS (fun q _ h => hFc q h) hFc (fun u t H1 locs ht hvm hw hB hz1 hk1 hS => ?_)
      obtain ⟨r_3, _, A_4⟩ := u
      obtain ⟨hP, hK1, hD1⟩ := hB
      rw [ht] at hP
      have hD := hD1.weaken (fun k q _ h => hFc q.1 h)
      have hP : va_P D vwCl (mw_w om R C z_1 A_4) H1 := hP
      have hD : va_D Ad (mw_w om R C z_1 A_4) := hD
      generalize H1 = H at hP hS ⊢
      refine W.eq (g2 := F0 m 45 ls []) rfl ?_
      refine lv_aload_n hx hb dX12_expect_45 rfl (lv_at hl 0 rfl) ?_
      refine lv_iconst (v := hz_i 1) hx hb dX12_expect_46 (by decide +kernel) ?_
      have hFc := mw_free hD hS hA
      refine va_callv (va_runV (As := [.int (hz_i 1)]) (rest := []) ⟨hx, hb, hml, hown, hts⟩ (k_keep l D _ om R C z_1 A_4 1 _ hw) (cwV 1 hts gX12_expect_X12_keep rfl rfl rfl (by decide +kernel) ⟨Nat.le_of_ble_eq_true rfl, Nat.le_of_ble_eq_true rfl⟩) ⟨hm_blind, va_recv hK hP (ci := 12) (q0 := 0) rfl rfl, hm_pre hP hK hD hE⟩ rfl rfl hl.1 rfl (lv_room (Nat.le_of_ble_eq_true rfl)) dX12_expect_47 ⟨Nat.le_of_ble_eq_true rfl, Nat.le_of_ble_eq_true rfl⟩) hS (fun q _ h => hFc q h) hFc (fun u t H1 locs ht hvm hw hB hz1 hk1 hS => ?_)
      obtain ⟨r_5, _, A_6⟩ := u
      obtain ⟨hP, hK1, hD1⟩ := hB
      rw [ht] at hP
      have hD := hD1.weaken (fun k q _ h => hFc q.1 h)
      have hP : va_P D vwCl (mw_w om R C z_1 A_6) H1 := hP
      have hD : va_D Ad (mw_w om R C z_1 A_6) := hD
      generalize H1 = H at hP hS ⊢
      refine W.eq (g2 := F0 m 50 ls []) rfl ?_
      exact L50 z_1 A_6 hw H locs ls hP hD hS (lv_sub hl [0] rfl)
  have L28 : ∀ (z : Nat → Int) (A : Nat → Nat → Int), wp_expect_28 z A  Q → ∀ (H : Heap) (locs : List Loc) (ls : Array Slot), va_P D vwCl (mw_w om R C z A) H → va_D Ad (mw_w om R C z A) → va_S Ad s.heap H locs → lv_has ls 1 [(0, .ref om)] → W p l e (headSpec wsX12_expect ({ frames := 8, cells := 0, slots := 0, locals := 201 } : Room)).room s m (List.toArray [.ref om]) below meth c H locs 0 0 QQ (F0 m 28 ls [.ref om]) := by
    intro z A hw H locs ls hP hD hS hl
    refine lv_iconst (v := hz_i 1) hx hb dX12_expect_28 (by decide +kernel) ?_
    exact L29 z A 1 hw H locs ls hP hD hS (lv_sub hl [0] rfl)
  have hP := hP0; have hD := hD0; have hS := hS0; have hl := hl0; have hw := hw0
  obtain ⟨H, hH⟩ : ∃ H : Heap, H = s.heap := ⟨_, rfl⟩
  obtain ⟨locs, hlocs⟩ : ∃ L : List Loc, L = [] := ⟨_, rfl⟩
  rw [← hH] at hP
  have hS : va_S Ad s.heap H locs := by rw [hH, hlocs]; exact hS
  refine mw_HL hH hlocs ?_
  refine lv_aload_n hx hb dX12_expect_0 rfl (lv_at hl 0 rfl) ?_
  refine lv_aload_n hx hb dX12_expect_1 rfl (lv_at hl 0 rfl) ?_
  refine mw_get (v := .int (hz_i (z 34))) hx hb hts hin12 hown hK hP 34 (by decide) (hts (.fieldLink RX12 331 "HiddenMovesModel" "known" "Z") (List.mem_cons_of_mem _ (List.mem_append_left _ (List.mem_append_left _ (List.mem_of_getElem? (i := 0) rfl))))) (fun _ h9 => h9) rfl dX12_expect_2 ?_
  obtain ⟨h9a, hw⟩ := hw
  refine hz_if_eq (tgt := 28) hx hb dX12_expect_5 (by decide) h9a (fun c_7 => ?_) (fun c_7 => ?_)
  · have hw := hw.1 c_7
    exact L28 z A hw H locs ls hP hD hS (lv_sub hl [0] rfl)
  · have hw := hw.2 c_7
    refine lv_aload_n hx hb dX12_expect_8 rfl (lv_at hl 0 rfl) ?_
    refine lv_iconst (v := hz_i 1) hx hb dX12_expect_9 (by decide +kernel) ?_
    have hFc := mw_free hD hS hA
    refine va_calli (va_runV (As := [.int (hz_i 1)]) (rest := [.ref om]) ⟨hx, hb, hml, hown, hts⟩ (k_isGood l D _ om R C z A 1 _ hw) (cwV 1 hts gX12_expect_X12_isGood rfl rfl rfl (by decide +kernel) ⟨Nat.le_of_ble_eq_true rfl, Nat.le_of_ble_eq_true rfl⟩) ⟨hm_blind, va_recv hK hP (ci := 12) (q0 := 0) rfl rfl, hm_pre hP hK hD hE⟩ rfl rfl hl.1 rfl (lv_room (Nat.le_of_ble_eq_true rfl)) dX12_expect_10 ⟨Nat.le_of_ble_eq_true rfl, Nat.le_of_ble_eq_true rfl⟩) hS (fun q _ h => hFc q h) hFc (fun rv u t H1 locs ht hvm hw hB hz1 hk1 hS => ?_)
    obtain ⟨r_8, _, _⟩ := u
    obtain ⟨hP, hK1, hD1⟩ := hB
    rw [ht] at hP
    obtain ⟨hrv, hw⟩ := hw
    subst hrv
    have hD := hD1.weaken (fun k q _ h => hFc q.1 h)
    have hP : va_P D vwCl (mw_w om R C z A) H1 := hP
    have hD : va_D Ad (mw_w om R C z A) := hD
    generalize H1 = H at hP hS ⊢
    refine W.eq (g2 := F0 m 13 ls [.int (hz_i r_8), .ref om]) rfl ?_
    obtain ⟨h9a, hw⟩ := hw
    refine hz_if_eq (tgt := 28) hx hb dX12_expect_13 (by decide) h9a (fun c_9 => ?_) (fun c_9 => ?_)
    · have hw := hw.1 c_9
      exact L28 z A hw H locs ls hP hD hS (lv_sub hl [0] rfl)
    · have hw := hw.2 c_9
      refine lv_aload_n hx hb dX12_expect_16 rfl (lv_at hl 0 rfl) ?_
      refine lv_iconst (v := hz_i 2) hx hb dX12_expect_17 (by decide +kernel) ?_
      have hFc := mw_free hD hS hA
      refine va_calli (va_runV (As := [.int (hz_i 2)]) (rest := [.ref om]) ⟨hx, hb, hml, hown, hts⟩ (k_isGood l D _ om R C z A 2 _ hw) (cwV 1 hts gX12_expect_X12_isGood rfl rfl rfl (by decide +kernel) ⟨Nat.le_of_ble_eq_true rfl, Nat.le_of_ble_eq_true rfl⟩) ⟨hm_blind, va_recv hK hP (ci := 12) (q0 := 0) rfl rfl, hm_pre hP hK hD hE⟩ rfl rfl hl.1 rfl (lv_room (Nat.le_of_ble_eq_true rfl)) dX12_expect_18 ⟨Nat.le_of_ble_eq_true rfl, Nat.le_of_ble_eq_true rfl⟩) hS (fun q _ h => hFc q h) hFc (fun rv u t H1 locs ht hvm hw hB hz1 hk1 hS => ?_)
      obtain ⟨r_10, _, _⟩ := u
      obtain ⟨hP, hK1, hD1⟩ := hB
      rw [ht] at hP
      obtain ⟨hrv, hw⟩ := hw
      subst hrv
      have hD := hD1.weaken (fun k q _ h => hFc q.1 h)
      have hP : va_P D vwCl (mw_w om R C z A) H1 := hP
      have hD : va_D Ad (mw_w om R C z A) := hD
      generalize H1 = H at hP hS ⊢
      refine W.eq (g2 := F0 m 21 ls [.int (hz_i r_10), .ref om]) rfl ?_
      obtain ⟨h9a, hw⟩ := hw
      refine hz_if_eq (tgt := 28) hx hb dX12_expect_21 (by decide) h9a (fun c_11 => ?_) (fun c_11 => ?_)
      · have hw := hw.1 c_11
        exact L28 z A hw H locs ls hP hD hS (lv_sub hl [0] rfl)
      · have hw := hw.2 c_11
        refine lv_iconst (v := hz_i 0) hx hb dX12_expect_24 (by decide +kernel) ?_
        refine lv_goto (tgt := 29) hx hb dX12_expect_25 (by decide) ?_
        exact L29 z A 0 hw H locs ls hP hD hS (lv_sub hl [0] rfl)

noncomputable def wp_firstPlan_5 (z : Nat → Int) (A : Nat → Nat → Int) (y1 : Int) (x2 : Int) (Q : (Nat → Nat → Int) → Prop) : Prop := ∀ P5 : (Nat → Nat → Int) → Int → Prop, (∀ (A : Nat → Nat → Int) (x2 : Int), hz_rI x2 ∧ hz_rI ((10 * y1) + 10) ∧ (((10 * y1) + 10 ≤ x2 → Q A) ∧ (¬ ((10 * y1) + 10 ≤ x2) → (0 ≤ x2 ∧ x2 < 20) ∧ ∀ A_2 : Nat → Nat → Int, A_2 = hz_s A 52 x2 0 → ∀ x2_3 : Int, x2_3 = x2 + 1 → P5 A_2 x2_3)) → P5 A x2) → P5 A x2
noncomputable def wp_firstPlan (z : Nat → Int) (A : Nat → Nat → Int) (y1 : Int) (Q : (Nat → Nat → Int) → Prop) : Prop := ∀ x2_4 : Int, x2_4 = 10 * y1 → wp_firstPlan_5 z A y1 x2_4  Q
set_option maxHeartbeats 4000000 in
set_option maxRecDepth 100000 in
theorem k_firstPlan (l : Launch) (D : va_G) (sz : Nat) (om : Nat) (R : Nat → Nat) (C : Nat → ClassId) (z : Nat → Int) (A : Nat → Nat → Int) (y1 : Int) (Q : (Nat → Nat → Int) → Prop) (hw : wp_firstPlan z A y1 Q) : Met l yX12_firstPlan wsX12_firstPlan ({ frames := 0, cells := 0, slots := 0, locals := 0 } : Room) (va_Pc [.ref om, .int (hz_i y1)] (hm_P D (mw_w om R C z A) (mw_t C) sz)) (va_Qv (S := Int × (Nat → Int) × (Nat → Nat → Int)) (fun u => Q u.2.2) (fun u t => hm_B D (va_A (mw_w om R C z A) sz) (mw_w om R C z u.2.2) (mw_t C) t) (va_A (mw_w om R C z A) sz)) 0 0 (va_A (mw_w om R C z A) sz) := by
  refine Met.ofW (cc := cX12_firstPlan) (maxL := 3) (ret := none) (by decide) rfl ?_
  intro p e s m args below meth c s₁ B hml hv
  obtain ⟨rfl, hsz, hP, hK, hD0, hE⟩ := hv
  have hx := B.exec
  have hb := B.bytes
  have hr := B.returns
  have hts := atoms_spec (ws := wsX12_firstPlan) B.pre
  have hown : s.vm.findClass RX12 = some m.cls := findClass_of_methodNamed B.named
  have hlocks := B.notSynchronized
  have hin12 : ∀ w ∈ u_ws RX12 TX12 58, w ∈ wsX12_firstPlan := fun w h => List.mem_cons_of_mem _ (List.mem_append_right _ (h))
  subst hsz
  have hD := hD0.self (sz := s.heap.size)
  generalize hAe : va_A (mw_w om R C z A) s.heap.size = Ad at hD ⊢
  have hA : ∀ q : Nat, s.heap.size ≤ q → Ad q := fun q h => by rw [← hAe]; exact Or.inr h
  have hS : va_S Ad s.heap s.heap [] := va_S.rf
  have hl := lv_entry ([.ref om, .int (hz_i y1)]) (n := 3) (Nat.le_of_ble_eq_true rfl)
  rw [lg_entry_eq]
  generalize (lg_sl ([.ref om, .int (hz_i y1)]) ++ List.replicate (3 - (lg_sl ([.ref om, .int (hz_i y1)])).length) Slot.unset).toArray = ls at hl ⊢
  have hl : lv_has ls 3 [(0, .ref om), (1, .int (hz_i y1))] := hl
  refine mw_Q (fun QQ hQQ => ?_)
  have hP0 := hP; have hD0 := hD; have hS0 := hS; have hl0 := hl; have hw0 := hw
  clear hP hD hS hl hw
  have L5 : ∀ (A : Nat → Nat → Int) (x2 : Int), wp_firstPlan_5 z A y1 x2  Q → ∀ (H : Heap) (locs : List Loc) (ls : Array Slot), va_P D vwCl (mw_w om R C z A) H → va_D Ad (mw_w om R C z A) → va_S Ad s.heap H locs → lv_has ls 3 [(0, .ref om), (1, .int (hz_i y1)), (2, .int (hz_i x2))] → W p l e (headSpec wsX12_firstPlan ({ frames := 0, cells := 0, slots := 0, locals := 0 } : Room)).room s m (List.toArray [.ref om, .int (hz_i y1)]) below meth c H locs 0 0 QQ (F0 m 5 ls []) := by
    intro A x2 hw
    obtain ⟨P5, hP5⟩ : ∃ P : (Nat → Nat → Int) → Int → Prop, ∀ (A : Nat → Nat → Int) (x2 : Int), P A x2 ↔ (∀ (H : Heap) (locs : List Loc) (ls : Array Slot), va_P D vwCl (mw_w om R C z A) H → va_D Ad (mw_w om R C z A) → va_S Ad s.heap H locs → lv_has ls 3 [(0, .ref om), (1, .int (hz_i y1)), (2, .int (hz_i x2))] → W p l e (headSpec wsX12_firstPlan ({ frames := 0, cells := 0, slots := 0, locals := 0 } : Room)).room s m (List.toArray [.ref om, .int (hz_i y1)]) below meth c H locs 0 0 QQ (F0 m 5 ls [])) := ⟨fun (A : Nat → Nat → Int) (x2 : Int) => ∀ (H : Heap) (locs : List Loc) (ls : Array Slot), va_P D vwCl (mw_w om R C z A) H → va_D Ad (mw_w om R C z A) → va_S Ad s.heap H locs → lv_has ls 3 [(0, .ref om), (1, .int (hz_i y1)), (2, .int (hz_i x2))] → W p l e (headSpec wsX12_firstPlan ({ frames := 0, cells := 0, slots := 0, locals := 0 } : Room)).room s m (List.toArray [.ref om, .int (hz_i y1)]) below meth c H locs 0 0 QQ (F0 m 5 ls []), fun _ _ => Iff.rfl⟩
    refine (hP5 A x2).mp (hw P5 ?_)
    intro A x2 hw
    refine (hP5 A x2).mpr ?_
    intro H locs ls hP hD hS hl
    refine lv_iload_n hx hb dX12_firstPlan_5 rfl (lv_at hl 2 rfl) ?_
    refine lv_bipush (v := hz_i 10) hx hb dX12_firstPlan_6 (by decide +kernel) ?_
    refine lv_iload_n hx hb dX12_firstPlan_8 rfl (lv_at hl 1 rfl) ?_
    refine hz_imul hx hb dX12_firstPlan_9 ?_
    refine lv_bipush (v := hz_i 10) hx hb dX12_firstPlan_10 (by decide +kernel) ?_
    refine hz_iadd hx hb dX12_firstPlan_12 ?_
    obtain ⟨h9a, hw⟩ := hw
    obtain ⟨h9b, hw⟩ := hw
    refine hz_icmp_ge (tgt := 29) hx hb dX12_firstPlan_13 (by decide) h9a h9b (fun c_1 => ?_) (fun c_1 => ?_)
    · have hw := hw.1 c_1
      subst hQQ
      subst hAe
      exact W.vret hx hb hr (fun t ht hW => ⟨⟨(0, z, A), rfl, hw, by rw [ht]; exact hP, va_K.moved hW.alike hK, hD⟩, hS.F ht⟩) hS.2.2 dX12_firstPlan_29
    · have hw := hw.2 c_1
      refine lv_aload_n hx hb dX12_firstPlan_16 rfl (lv_at hl 0 rfl) ?_
      refine mw_get (v := .ref (R 52)) hx hb hts hin12 hown hK hP 52 (by decide) (hts (.fieldLink RX12 208 "HiddenMovesModel" "plan" "[I") (List.mem_cons_of_mem _ (List.mem_append_left _ (List.mem_of_getElem? (i := 0) rfl)))) (fun _ h9 => h9) rfl dX12_firstPlan_17 ?_
      refine lv_iload_n hx hb dX12_firstPlan_20 rfl (lv_at hl 2 rfl) ?_
      refine lv_iconst (v := hz_i 0) hx hb dX12_firstPlan_21 (by decide +kernel) ?_
      obtain ⟨h9i, hw⟩ := hw
      refine mw_ist (k := 52) (n := 20) (i := x2) (v := 0) hx hb hK hP hD hS 39 38 rfl rfl (mw_a52 om R C z A) h9i (by decide) dX12_firstPlan_22 (fun H locs hP hD hS => ?_)
      obtain ⟨A_2, hA_2⟩ : ∃ y : Nat → Nat → Int, y = hz_s A 52 x2 0 := ⟨_, rfl⟩
      rw [← hA_2] at hP hD
      have hw := hw A_2 hA_2
      obtain ⟨x2_3, hx2_3⟩ : ∃ y : Int, y = x2 + 1 := ⟨_, rfl⟩
      have hw := hw x2_3 hx2_3
      refine lv_iinc (v := hz_i x2_3) (lv' := [(2, .int (hz_i x2_3)), (0, .ref om), (1, .int (hz_i y1))]) hx hb dX12_firstPlan_23 hl (k := 2) rfl (by rw [hx2_3]; exact hz_i_add _ _) (by decide) rfl (fun ls hl => ?_)
      refine lv_goto (tgt := 5) hx hb dX12_firstPlan_26 (by decide) ?_
      exact (hP5 A_2 x2_3).mp hw H locs ls hP hD hS (lv_sub hl [1, 2, 0] rfl)
  have hP := hP0; have hD := hD0; have hS := hS0; have hl := hl0; have hw := hw0
  obtain ⟨H, hH⟩ : ∃ H : Heap, H = s.heap := ⟨_, rfl⟩
  obtain ⟨locs, hlocs⟩ : ∃ L : List Loc, L = [] := ⟨_, rfl⟩
  rw [← hH] at hP
  have hS : va_S Ad s.heap H locs := by rw [hH, hlocs]; exact hS
  refine mw_HL hH hlocs ?_
  refine lv_bipush (v := hz_i 10) hx hb dX12_firstPlan_0 (by decide +kernel) ?_
  refine lv_iload_n hx hb dX12_firstPlan_2 rfl (lv_at hl 1 rfl) ?_
  refine hz_imul hx hb dX12_firstPlan_3 ?_
  refine hz_topi (fun x2_4 hx2_4 => ?_)
  have hw := hw x2_4 hx2_4
  refine lv_istore_n (lv' := [(2, .int (hz_i x2_4)), (0, .ref om), (1, .int (hz_i y1))]) hx hb dX12_firstPlan_4 rfl hl (by decide) rfl (fun ls hl => ?_)
  exact L5 A x2_4 hw H locs ls hP hD hS (lv_sub hl [1, 2, 0] rfl)

noncomputable def wp_nextPlan_15 (z : Nat → Int) (A : Nat → Nat → Int) (y1 : Int) (x2 : Int) (Q : Int → (Nat → Nat → Int) → Prop) : Prop := ∀ P15 : (Nat → Nat → Int) → Int → Prop, (∀ (A : Nat → Nat → Int) (x2 : Int), hz_rI x2 ∧ hz_rI (10 * y1) ∧ ((x2 < 10 * y1 → Q 0 A) ∧ (¬ (x2 < 10 * y1) → (0 ≤ x2 ∧ x2 < 20) ∧ (0 ≤ x2 ∧ x2 < 20) ∧ ∀ A_2 : Nat → Nat → Int, A_2 = hz_s A 52 x2 ((A 52 (x2.toNat)) + 1) → (0 ≤ x2 ∧ x2 < 20) ∧ wp_movesOf z A_2 x2 (fun r_3 => hz_rI (A_2 52 (x2.toNat)) ∧ hz_rI r_3 ∧ ((r_3 ≤ A_2 52 (x2.toNat) → (0 ≤ x2 ∧ x2 < 20) ∧ ∀ A_5 : Nat → Nat → Int, A_5 = hz_s A_2 52 x2 0 → ∀ x2_6 : Int, x2_6 = x2 + (-1) → P15 A_5 x2_6) ∧ (¬ (r_3 ≤ A_2 52 (x2.toNat)) → Q 1 A_2))))) → P15 A x2) → P15 A x2
noncomputable def wp_nextPlan (z : Nat → Int) (A : Nat → Nat → Int) (y1 : Int) (Q : Int → (Nat → Nat → Int) → Prop) : Prop := wp_setsOf z A (y1 + 1) (fun r_7 => ∀ x2_8 : Int, x2_8 = ((10 * y1) + r_7) - 1 → wp_nextPlan_15 z A y1 x2_8  Q)
set_option maxHeartbeats 4000000 in
set_option maxRecDepth 100000 in
theorem k_nextPlan (l : Launch) (D : va_G) (sz : Nat) (om : Nat) (R : Nat → Nat) (C : Nat → ClassId) (z : Nat → Int) (A : Nat → Nat → Int) (y1 : Int) (Q : Int → (Nat → Nat → Int) → Prop) (hw : wp_nextPlan z A y1 Q) : Met l yX12_nextPlan wsX12_nextPlan ({ frames := 1, cells := 0, slots := 0, locals := 21 } : Room) (va_Pc [.ref om, .int (hz_i y1)] (hm_P D (mw_w om R C z A) (mw_t C) sz)) (va_Qi (S := Int × (Nat → Int) × (Nat → Nat → Int)) (fun r u => r = hz_i u.1 ∧ Q u.1 u.2.2) (fun u t => hm_B D (va_A (mw_w om R C z A) sz) (mw_w om R C z u.2.2) (mw_t C) t) (va_A (mw_w om R C z A) sz)) 0 0 (va_A (mw_w om R C z A) sz) := by
  refine Met.ofW (cc := cX12_nextPlan) (maxL := 3) (ret := (some .boolean)) (by decide) rfl ?_
  intro p e s m args below meth c s₁ B hml hv
  obtain ⟨rfl, hsz, hP, hK, hD0, hE⟩ := hv
  have hx := B.exec
  have hb := B.bytes
  have hr := B.returns
  have hts := atoms_spec (ws := wsX12_nextPlan) B.pre
  have hown : s.vm.findClass RX12 = some m.cls := findClass_of_methodNamed B.named
  have hlocks := B.notSynchronized
  have hin12 : ∀ w ∈ u_ws RX12 TX12 58, w ∈ wsX12_nextPlan := fun w h => List.mem_cons_of_mem _ (List.mem_append_right _ (h))
  subst hsz
  have hD := hD0.self (sz := s.heap.size)
  generalize hAe : va_A (mw_w om R C z A) s.heap.size = Ad at hD ⊢
  have hA : ∀ q : Nat, s.heap.size ≤ q → Ad q := fun q h => by rw [← hAe]; exact Or.inr h
  have hS : va_S Ad s.heap s.heap [] := va_S.rf
  have hl := lv_entry ([.ref om, .int (hz_i y1)]) (n := 3) (Nat.le_of_ble_eq_true rfl)
  rw [lg_entry_eq]
  generalize (lg_sl ([.ref om, .int (hz_i y1)]) ++ List.replicate (3 - (lg_sl ([.ref om, .int (hz_i y1)])).length) Slot.unset).toArray = ls at hl ⊢
  have hl : lv_has ls 3 [(0, .ref om), (1, .int (hz_i y1))] := hl
  refine mw_Q (fun QQ hQQ => ?_)
  have hP0 := hP; have hD0 := hD; have hS0 := hS; have hl0 := hl; have hw0 := hw
  clear hP hD hS hl hw
  have L15 : ∀ (A : Nat → Nat → Int) (x2 : Int), wp_nextPlan_15 z A y1 x2  Q → ∀ (H : Heap) (locs : List Loc) (ls : Array Slot), va_P D vwCl (mw_w om R C z A) H → va_D Ad (mw_w om R C z A) → va_S Ad s.heap H locs → lv_has ls 3 [(0, .ref om), (1, .int (hz_i y1)), (2, .int (hz_i x2))] → W p l e (headSpec wsX12_nextPlan ({ frames := 1, cells := 0, slots := 0, locals := 21 } : Room)).room s m (List.toArray [.ref om, .int (hz_i y1)]) below meth c H locs 0 0 QQ (F0 m 15 ls []) := by
    intro A x2 hw
    obtain ⟨P15, hP15⟩ : ∃ P : (Nat → Nat → Int) → Int → Prop, ∀ (A : Nat → Nat → Int) (x2 : Int), P A x2 ↔ (∀ (H : Heap) (locs : List Loc) (ls : Array Slot), va_P D vwCl (mw_w om R C z A) H → va_D Ad (mw_w om R C z A) → va_S Ad s.heap H locs → lv_has ls 3 [(0, .ref om), (1, .int (hz_i y1)), (2, .int (hz_i x2))] → W p l e (headSpec wsX12_nextPlan ({ frames := 1, cells := 0, slots := 0, locals := 21 } : Room)).room s m (List.toArray [.ref om, .int (hz_i y1)]) below meth c H locs 0 0 QQ (F0 m 15 ls [])) := ⟨fun (A : Nat → Nat → Int) (x2 : Int) => ∀ (H : Heap) (locs : List Loc) (ls : Array Slot), va_P D vwCl (mw_w om R C z A) H → va_D Ad (mw_w om R C z A) → va_S Ad s.heap H locs → lv_has ls 3 [(0, .ref om), (1, .int (hz_i y1)), (2, .int (hz_i x2))] → W p l e (headSpec wsX12_nextPlan ({ frames := 1, cells := 0, slots := 0, locals := 21 } : Room)).room s m (List.toArray [.ref om, .int (hz_i y1)]) below meth c H locs 0 0 QQ (F0 m 15 ls []), fun _ _ => Iff.rfl⟩
    refine (hP15 A x2).mp (hw P15 ?_)
    intro A x2 hw
    refine (hP15 A x2).mpr ?_
    intro H locs ls hP hD hS hl
    refine lv_iload_n hx hb dX12_nextPlan_15 rfl (lv_at hl 2 rfl) ?_
    refine lv_bipush (v := hz_i 10) hx hb dX12_nextPlan_16 (by decide +kernel) ?_
    refine lv_iload_n hx hb dX12_nextPlan_18 rfl (lv_at hl 1 rfl) ?_
    refine hz_imul hx hb dX12_nextPlan_19 ?_
    obtain ⟨h9a, hw⟩ := hw
    obtain ⟨h9b, hw⟩ := hw
    refine hz_icmp_lt (tgt := 62) hx hb dX12_nextPlan_20 (by decide) h9a h9b (fun c_1 => ?_) (fun c_1 => ?_)
    · have hw := hw.1 c_1
      refine lv_iconst (v := hz_i 0) hx hb dX12_nextPlan_62 (by decide +kernel) ?_
      subst hQQ
      subst hAe
      exact W.zret (v := hz_i 0) hx hb hr (hz_tZ (by decide)) (fun t ht hW => ⟨⟨hz_i 0, (0, z, A), rfl, ⟨rfl, hw⟩, by rw [ht]; exact hP, va_K.moved hW.alike hK, hD⟩, hS.F ht⟩) hS.2.2 dX12_nextPlan_63
    · have hw := hw.2 c_1
      refine lv_aload_n hx hb dX12_nextPlan_23 rfl (lv_at hl 0 rfl) ?_
      refine mw_get (v := .ref (R 52)) hx hb hts hin12 hown hK hP 52 (by decide) (hts (.fieldLink RX12 208 "HiddenMovesModel" "plan" "[I") (List.mem_cons_of_mem _ (List.mem_append_left _ (List.mem_of_getElem? (i := 0) rfl)))) (fun _ h9 => h9) rfl dX12_nextPlan_24 ?_
      refine lv_iload_n hx hb dX12_nextPlan_27 rfl (lv_at hl 2 rfl) ?_
      refine lv_dup2_11 hx hb dX12_nextPlan_28 rfl rfl ?_
      obtain ⟨h9i, hw⟩ := hw
      refine mw_ild (k := 52) (n := 20) (i := x2) hx hb hK hP 39 38 rfl rfl h9i (by decide) dX12_nextPlan_29 ?_
      refine lv_iconst (v := hz_i 1) hx hb dX12_nextPlan_30 (by decide +kernel) ?_
      refine hz_iadd hx hb dX12_nextPlan_31 ?_
      obtain ⟨h9i, hw⟩ := hw
      refine mw_ist (k := 52) (n := 20) (i := x2) (v := (A 52 (x2.toNat)) + 1) hx hb hK hP hD hS 39 38 rfl rfl (mw_a52 om R C z A) h9i (by decide) dX12_nextPlan_32 (fun H locs hP hD hS => ?_)
      obtain ⟨A_2, hA_2⟩ : ∃ y : Nat → Nat → Int, y = hz_s A 52 x2 ((A 52 (x2.toNat)) + 1) := ⟨_, rfl⟩
      rw [← hA_2] at hP hD
      have hw := hw A_2 hA_2
      refine lv_aload_n hx hb dX12_nextPlan_33 rfl (lv_at hl 0 rfl) ?_
      refine mw_get (v := .ref (R 52)) hx hb hts hin12 hown hK hP 52 (by decide) (hts (.fieldLink RX12 208 "HiddenMovesModel" "plan" "[I") (List.mem_cons_of_mem _ (List.mem_append_left _ (List.mem_of_getElem? (i := 0) rfl)))) (fun _ h9 => h9) rfl dX12_nextPlan_34 ?_
      refine lv_iload_n hx hb dX12_nextPlan_37 rfl (lv_at hl 2 rfl) ?_
      obtain ⟨h9i, hw⟩ := hw
      refine mw_ild (k := 52) (n := 20) (i := x2) hx hb hK hP 39 38 rfl rfl h9i (by decide) dX12_nextPlan_38 ?_
      refine lv_aload_n hx hb dX12_nextPlan_39 rfl (lv_at hl 0 rfl) ?_
      refine lv_iload_n hx hb dX12_nextPlan_40 rfl (lv_at hl 2 rfl) ?_
      have hFc := mw_free hD hS hA
      refine va_calli (va_runV (As := [.int (hz_i x2)]) (rest := [.int (hz_i (A_2 52 (x2.toNat)))]) ⟨hx, hb, hml, hown, hts⟩ (k_movesOf l D _ om R C z A_2 x2 _ hw) (cwV 1 hts gX12_nextPlan_X12_movesOf rfl rfl rfl (by decide +kernel) ⟨Nat.le_of_ble_eq_true rfl, Nat.le_of_ble_eq_true rfl⟩) ⟨hm_blind, va_recv hK hP (ci := 12) (q0 := 0) rfl rfl, hm_pre hP hK hD hE⟩ rfl rfl hl.1 rfl (lv_room (Nat.le_of_ble_eq_true rfl)) dX12_nextPlan_41 ⟨Nat.le_of_ble_eq_true rfl, Nat.le_of_ble_eq_true rfl⟩) hS (fun q _ h => hFc q h) hFc (fun rv u t H1 locs ht hvm hw hB hz1 hk1 hS => ?_)
      obtain ⟨r_3, _, _⟩ := u
      obtain ⟨hP, hK1, hD1⟩ := hB
      rw [ht] at hP
      obtain ⟨hrv, hw⟩ := hw
      subst hrv
      have hD := hD1.weaken (fun k q _ h => hFc q.1 h)
      have hP : va_P D vwCl (mw_w om R C z A_2) H1 := hP
      have hD : va_D Ad (mw_w om R C z A_2) := hD
      generalize H1 = H at hP hS ⊢
      refine W.eq (g2 := F0 m 44 ls [.int (hz_i r_3), .int (hz_i (A_2 52 (x2.toNat)))]) rfl ?_
      obtain ⟨h9a, hw⟩ := hw
      obtain ⟨h9b, hw⟩ := hw
      refine hz_icmp_ge (tgt := 49) hx hb dX12_nextPlan_44 (by decide) h9a h9b (fun c_4 => ?_) (fun c_4 => ?_)
      · have hw := hw.1 c_4
        refine lv_aload_n hx hb dX12_nextPlan_49 rfl (lv_at hl 0 rfl) ?_
        refine mw_get (v := .ref (R 52)) hx hb hts hin12 hown hK hP 52 (by decide) (hts (.fieldLink RX12 208 "HiddenMovesModel" "plan" "[I") (List.mem_cons_of_mem _ (List.mem_append_left _ (List.mem_of_getElem? (i := 0) rfl)))) (fun _ h9 => h9) rfl dX12_nextPlan_50 ?_
        refine lv_iload_n hx hb dX12_nextPlan_53 rfl (lv_at hl 2 rfl) ?_
        refine lv_iconst (v := hz_i 0) hx hb dX12_nextPlan_54 (by decide +kernel) ?_
        obtain ⟨h9i, hw⟩ := hw
        refine mw_ist (k := 52) (n := 20) (i := x2) (v := 0) hx hb hK hP hD hS 39 38 rfl rfl (mw_a52 om R C z A_2) h9i (by decide) dX12_nextPlan_55 (fun H locs hP hD hS => ?_)
        obtain ⟨A_5, hA_5⟩ : ∃ y : Nat → Nat → Int, y = hz_s A_2 52 x2 0 := ⟨_, rfl⟩
        rw [← hA_5] at hP hD
        have hw := hw A_5 hA_5
        obtain ⟨x2_6, hx2_6⟩ : ∃ y : Int, y = x2 + (-1) := ⟨_, rfl⟩
        have hw := hw x2_6 hx2_6
        refine lv_iinc (v := hz_i x2_6) (lv' := [(2, .int (hz_i x2_6)), (0, .ref om), (1, .int (hz_i y1))]) hx hb dX12_nextPlan_56 hl (k := 2) rfl (by rw [hx2_6]; exact hz_i_add _ _) (by decide) rfl (fun ls hl => ?_)
        refine lv_goto (tgt := 15) hx hb dX12_nextPlan_59 (by decide) ?_
        exact (hP15 A_5 x2_6).mp hw H locs ls hP hD hS (lv_sub hl [1, 2, 0] rfl)
      · have hw := hw.2 c_4
        refine lv_iconst (v := hz_i 1) hx hb dX12_nextPlan_47 (by decide +kernel) ?_
        subst hQQ
        subst hAe
        exact W.zret (v := hz_i 1) hx hb hr (hz_tZ (by decide)) (fun t ht hW => ⟨⟨hz_i 1, (1, z, A_2), rfl, ⟨rfl, hw⟩, by rw [ht]; exact hP, va_K.moved hW.alike hK, hD⟩, hS.F ht⟩) hS.2.2 dX12_nextPlan_48
  have hP := hP0; have hD := hD0; have hS := hS0; have hl := hl0; have hw := hw0
  obtain ⟨H, hH⟩ : ∃ H : Heap, H = s.heap := ⟨_, rfl⟩
  obtain ⟨locs, hlocs⟩ : ∃ L : List Loc, L = [] := ⟨_, rfl⟩
  rw [← hH] at hP
  have hS : va_S Ad s.heap H locs := by rw [hH, hlocs]; exact hS
  refine mw_HL hH hlocs ?_
  refine lv_bipush (v := hz_i 10) hx hb dX12_nextPlan_0 (by decide +kernel) ?_
  refine lv_iload_n hx hb dX12_nextPlan_2 rfl (lv_at hl 1 rfl) ?_
  refine hz_imul hx hb dX12_nextPlan_3 ?_
  refine lv_aload_n hx hb dX12_nextPlan_4 rfl (lv_at hl 0 rfl) ?_
  refine lv_iload_n hx hb dX12_nextPlan_5 rfl (lv_at hl 1 rfl) ?_
  refine lv_iconst (v := hz_i 1) hx hb dX12_nextPlan_6 (by decide +kernel) ?_
  refine hz_iadd hx hb dX12_nextPlan_7 ?_
  have hFc := mw_free hD hS hA
  refine va_calli (va_runV (As := [.int (hz_i (y1 + 1))]) (rest := [.int (hz_i (10 * y1))]) ⟨hx, hb, hml, hown, hts⟩ (k_setsOf l D _ om R C z A (y1 + 1) _ hw) (cwV 1 hts gX12_nextPlan_X12_setsOf rfl rfl rfl (by decide +kernel) ⟨Nat.le_of_ble_eq_true rfl, Nat.le_of_ble_eq_true rfl⟩) ⟨hm_blind, va_recv hK hP (ci := 12) (q0 := 0) rfl rfl, hm_pre hP hK hD hE⟩ rfl rfl hl.1 rfl (lv_room (Nat.le_of_ble_eq_true rfl)) dX12_nextPlan_8 ⟨Nat.le_of_ble_eq_true rfl, Nat.le_of_ble_eq_true rfl⟩) hS (fun q _ h => hFc q h) hFc (fun rv u t H1 locs ht hvm hw hB hz1 hk1 hS => ?_)
  obtain ⟨r_7, _, _⟩ := u
  obtain ⟨hP, hK1, hD1⟩ := hB
  rw [ht] at hP
  obtain ⟨hrv, hw⟩ := hw
  subst hrv
  have hD := hD1.weaken (fun k q _ h => hFc q.1 h)
  have hP : va_P D vwCl (mw_w om R C z A) H1 := hP
  have hD : va_D Ad (mw_w om R C z A) := hD
  generalize H1 = H at hP hS ⊢
  refine W.eq (g2 := F0 m 11 ls [.int (hz_i r_7), .int (hz_i (10 * y1))]) rfl ?_
  refine hz_iadd hx hb dX12_nextPlan_11 ?_
  refine lv_iconst (v := hz_i 1) hx hb dX12_nextPlan_12 (by decide +kernel) ?_
  refine hz_isub hx hb dX12_nextPlan_13 ?_
  refine hz_topi (fun x2_8 hx2_8 => ?_)
  have hw := hw x2_8 hx2_8
  refine lv_istore_n (lv' := [(2, .int (hz_i x2_8)), (0, .ref om), (1, .int (hz_i y1))]) hx hb dX12_nextPlan_14 rfl hl (by decide) rfl (fun ls hl => ?_)
  exact L15 A x2_8 hw H locs ls hP hD hS (lv_sub hl [1, 2, 0] rfl)

noncomputable def wp_judge_201 (z : Nat → Int) (A : Nat → Nat → Int) (y1 : Int) (x2 : Int) (P66 : (Nat → Nat → Int) → Int → Prop) (Q : (Nat → Int) → (Nat → Nat → Int) → Prop) : Prop := wp_nextPlan z A x2 (fun r_1 A_2 => P66 A_2 r_1)
noncomputable def wp_judge_169 (z : Nat → Int) (A : Nat → Nat → Int) (y1 : Int) (x2 : Int) (x5 : Int) (P66 : (Nat → Nat → Int) → Int → Prop) (Q : (Nat → Int) → (Nat → Nat → Int) → Prop) : Prop := ∀ P169 : (Nat → Nat → Int) → Int → Prop, (∀ (A : Nat → Nat → Int) (x5 : Int), hz_rI x5 ∧ hz_rI ((10 * x2) + 10) ∧ (((10 * x2) + 10 ≤ x5 → wp_judge_201 z A y1 x2 P66 Q) ∧ (¬ ((10 * x2) + 10 ≤ x5) → (0 ≤ x5 ∧ x5 < 20) ∧ (0 ≤ x5 ∧ x5 < 20) ∧ ∀ A_4 : Nat → Nat → Int, A_4 = hz_s A 53 x5 (A 52 (x5.toNat)) → ∀ x5_5 : Int, x5_5 = x5 + 1 → P169 A_4 x5_5)) → P169 A x5) → P169 A x5
noncomputable def wp_judge_156 (z : Nat → Int) (A : Nat → Nat → Int) (y1 : Int) (x2 : Int) (P66 : (Nat → Nat → Int) → Int → Prop) (Q : (Nat → Int) → (Nat → Nat → Int) → Prop) : Prop := wp_keep z A (1 + y1) (fun A_7 => ∀ x5_8 : Int, x5_8 = 10 * x2 → wp_judge_169 z A_7 y1 x2 x5_8 P66 Q)
noncomputable def wp_judge_125 (z : Nat → Int) (A : Nat → Nat → Int) (y1 : Int) (x2 : Int) (t0 : Int) (P66 : (Nat → Nat → Int) → Int → Prop) (Q : (Nat → Int) → (Nat → Nat → Int) → Prop) : Prop := (0 ≤ 1 + y1 ∧ 1 + y1 < 4) ∧ hz_rI (A 51 ((1 + y1).toNat)) ∧ ((A 51 ((1 + y1).toNat) = 0 → wp_judge_156 z A y1 x2 P66 Q) ∧ (¬ (A 51 ((1 + y1).toNat) = 0) → hz_rI y1 ∧ ((¬ y1 = 1 → hz_rI t0 ∧ ((t0 ≤ 0 → wp_judge_201 z A y1 x2 P66 Q) ∧ (¬ (t0 ≤ 0) → wp_judge_156 z A y1 x2 P66 Q))) ∧ (y1 = 1 → hz_rI t0 ∧ ((0 ≤ t0 → wp_judge_201 z A y1 x2 P66 Q) ∧ (¬ (0 ≤ t0) → wp_judge_156 z A y1 x2 P66 Q))))))
noncomputable def wp_judge_91 (z : Nat → Int) (A : Nat → Nat → Int) (y1 : Int) (x2 : Int) (t0 : Int) (t1 : Int) (P66 : (Nat → Nat → Int) → Int → Prop) (Q : (Nat → Int) → (Nat → Nat → Int) → Prop) : Prop := wp_expectAll z A t1 t0 (fun A_14 => (0 ≤ 1 + y1 ∧ 1 + y1 < 4) ∧ hz_rI (A_14 51 ((1 + y1).toNat)) ∧ ((A_14 51 ((1 + y1).toNat) = 0 → wp_judge_125 z A_14 y1 x2 0 P66 Q) ∧ (¬ (A_14 51 ((1 + y1).toNat) = 0) → wp_compareFractions z A_14 4239 (4231 + (2 * (1 + y1))) (fun r_16 A_17 => wp_judge_125 z A_17 y1 x2 r_16 P66 Q))))
noncomputable def wp_judge_81 (z : Nat → Int) (A : Nat → Nat → Int) (y1 : Int) (x2 : Int) (t0 : Int) (P66 : (Nat → Nat → Int) → Int → Prop) (Q : (Nat → Int) → (Nat → Nat → Int) → Prop) : Prop := hz_rI y1 ∧ ((¬ y1 = 1 → wp_judge_91 z A y1 x2 0 t0 P66 Q) ∧ (y1 = 1 → wp_judge_91 z A y1 x2 1 t0 P66 Q))
noncomputable def wp_judge_66 (z : Nat → Int) (A : Nat → Nat → Int) (y1 : Int) (x2 : Int) (x3 : Int) (Q : (Nat → Int) → (Nat → Nat → Int) → Prop) : Prop := ∀ P66 : (Nat → Nat → Int) → Int → Prop, (∀ (A : Nat → Nat → Int) (x3 : Int), hz_rI x3 ∧ ((x3 = 0 → Q z A) ∧ (¬ (x3 = 0) → hz_rI y1 ∧ ((¬ y1 = 2 → wp_judge_81 z A y1 x2 0 P66 Q) ∧ (y1 = 2 → wp_judge_81 z A y1 x2 1 P66 Q)))) → P66 A x3) → P66 A x3
noncomputable def wp_judge_35 (z : Nat → Int) (A : Nat → Nat → Int) (y1 : Int) (t0 : Int) (Q : (Nat → Int) → (Nat → Nat → Int) → Prop) : Prop := ∀ z_21 : Nat → Int, z_21 = lp_U z 3 t0 → hz_rI (z_21 3) ∧ ((z_21 3 ≤ 0 → ∀ x2_23 : Int, x2_23 = 2 - y1 → (0 ≤ 1 + y1 ∧ 1 + y1 < 4) ∧ ∀ A_24 : Nat → Nat → Int, A_24 = hz_s A 51 (1 + y1) 0 → wp_firstPlan z_21 A_24 x2_23 (fun A_26 => wp_judge_66 z_21 A_26 y1 x2_23 1  Q)) ∧ (¬ (z_21 3 ≤ 0) → Q z_21 A))
noncomputable def wp_judge_30 (z : Nat → Int) (A : Nat → Nat → Int) (y1 : Int) (Q : (Nat → Int) → (Nat → Nat → Int) → Prop) : Prop := wp_judge_35 z A y1 2  Q
noncomputable def wp_judge_15 (z : Nat → Int) (A : Nat → Nat → Int) (y1 : Int) (Q : (Nat → Int) → (Nat → Nat → Int) → Prop) : Prop := hz_rI (z 34) ∧ ((z 34 = 0 → wp_judge_30 z A y1  Q) ∧ (¬ (z 34 = 0) → wp_isGood z A y1 (fun r_28 => hz_rI r_28 ∧ ((¬ r_28 = 0 → wp_judge_35 z A y1 0  Q) ∧ (r_28 = 0 → wp_judge_30 z A y1  Q)))))
noncomputable def wp_judge (z : Nat → Int) (A : Nat → Nat → Int) (y1 : Int) (Q : (Nat → Int) → (Nat → Nat → Int) → Prop) : Prop := hz_rI y1 ∧ ((y1 = 1 → wp_judge_15 z A y1  Q) ∧ (¬ (y1 = 1) → hz_rI y1 ∧ ((y1 = 2 → wp_judge_15 z A y1  Q) ∧ (¬ (y1 = 2) → wp_judge_35 z A y1 1  Q))))
set_option maxHeartbeats 4000000 in
set_option maxRecDepth 100000 in
theorem k_judge (l : Launch) (D : va_G) (sz : Nat) (om : Nat) (R : Nat → Nat) (C : Nat → ClassId) (z : Nat → Int) (A : Nat → Nat → Int) (y1 : Int) (Q : (Nat → Int) → (Nat → Nat → Int) → Prop) (hw : wp_judge z A y1 Q) : Met l yX12_judge wsX12_judge ({ frames := 8, cells := 0, slots := 0, locals := 201 } : Room) (va_Pc [.ref om, .int (hz_i y1)] (hm_P D (mw_w om R C z A) (mw_t C) sz)) (va_Qv (S := Int × (Nat → Int) × (Nat → Nat → Int)) (fun u => Q u.2.1 u.2.2) (fun u t => hm_B D (va_A (mw_w om R C z A) sz) (mw_w om R C u.2.1 u.2.2) (mw_t C) t) (va_A (mw_w om R C z A) sz)) 0 0 (va_A (mw_w om R C z A) sz) := by
  refine Met.ofW (cc := cX12_judge) (maxL := 6) (ret := none) (by decide) rfl ?_
  intro p e s m args below meth c s₁ B hml hv
  obtain ⟨rfl, hsz, hP, hK, hD0, hE⟩ := hv
  have hx := B.exec
  have hb := B.bytes
  have hr := B.returns
  have hts := atoms_spec (ws := wsX12_judge) B.pre
  have hown : s.vm.findClass RX12 = some m.cls := findClass_of_methodNamed B.named
  have hlocks := B.notSynchronized
  have hin12 : ∀ w ∈ u_ws RX12 TX12 58, w ∈ wsX12_judge := fun w h => List.mem_cons_of_mem _ (List.mem_append_right _ (h))
  subst hsz
  have hD := hD0.self (sz := s.heap.size)
  generalize hAe : va_A (mw_w om R C z A) s.heap.size = Ad at hD ⊢
  have hA : ∀ q : Nat, s.heap.size ≤ q → Ad q := fun q h => by rw [← hAe]; exact Or.inr h
  have hS : va_S Ad s.heap s.heap [] := va_S.rf
  have hl := lv_entry ([.ref om, .int (hz_i y1)]) (n := 6) (Nat.le_of_ble_eq_true rfl)
  rw [lg_entry_eq]
  generalize (lg_sl ([.ref om, .int (hz_i y1)]) ++ List.replicate (6 - (lg_sl ([.ref om, .int (hz_i y1)])).length) Slot.unset).toArray = ls at hl ⊢
  have hl : lv_has ls 6 [(0, .ref om), (1, .int (hz_i y1))] := hl
  refine mw_Q (fun QQ hQQ => ?_)
  have hP0 := hP; have hD0 := hD; have hS0 := hS; have hl0 := hl; have hw0 := hw
  clear hP hD hS hl hw
  have L66 : ∀ (z : Nat → Int) (A : Nat → Nat → Int) (x2 : Int) (x3 : Int), wp_judge_66 z A y1 x2 x3  Q → ∀ (H : Heap) (locs : List Loc) (ls : Array Slot), va_P D vwCl (mw_w om R C z A) H → va_D Ad (mw_w om R C z A) → va_S Ad s.heap H locs → lv_has ls 6 [(0, .ref om), (1, .int (hz_i y1)), (2, .int (hz_i x2)), (3, .int (hz_i x3))] → W p l e (headSpec wsX12_judge ({ frames := 8, cells := 0, slots := 0, locals := 201 } : Room)).room s m (List.toArray [.ref om, .int (hz_i y1)]) below meth c H locs 0 0 QQ (F0 m 66 ls []) := by
    intro z A x2 x3 hw
    obtain ⟨P66, hP66⟩ : ∃ P : (Nat → Nat → Int) → Int → Prop, ∀ (A : Nat → Nat → Int) (x3 : Int), P A x3 ↔ (∀ (H : Heap) (locs : List Loc) (ls : Array Slot), va_P D vwCl (mw_w om R C z A) H → va_D Ad (mw_w om R C z A) → va_S Ad s.heap H locs → lv_has ls 6 [(0, .ref om), (1, .int (hz_i y1)), (2, .int (hz_i x2)), (3, .int (hz_i x3))] → W p l e (headSpec wsX12_judge ({ frames := 8, cells := 0, slots := 0, locals := 201 } : Room)).room s m (List.toArray [.ref om, .int (hz_i y1)]) below meth c H locs 0 0 QQ (F0 m 66 ls [])) := ⟨fun (A : Nat → Nat → Int) (x3 : Int) => ∀ (H : Heap) (locs : List Loc) (ls : Array Slot), va_P D vwCl (mw_w om R C z A) H → va_D Ad (mw_w om R C z A) → va_S Ad s.heap H locs → lv_has ls 6 [(0, .ref om), (1, .int (hz_i y1)), (2, .int (hz_i x2)), (3, .int (hz_i x3))] → W p l e (headSpec wsX12_judge ({ frames := 8, cells := 0, slots := 0, locals := 201 } : Room)).room s m (List.toArray [.ref om, .int (hz_i y1)]) below meth c H locs 0 0 QQ (F0 m 66 ls []), fun _ _ => Iff.rfl⟩
    refine (hP66 A x3).mp (hw P66 ?_)
    intro A x3 hw
    refine (hP66 A x3).mpr ?_
    intro H locs ls hP hD hS hl
    have L201 : ∀ (A : Nat → Nat → Int), wp_judge_201 z A y1 x2 P66 Q → ∀ (H : Heap) (locs : List Loc) (ls : Array Slot), va_P D vwCl (mw_w om R C z A) H → va_D Ad (mw_w om R C z A) → va_S Ad s.heap H locs → lv_has ls 6 [(0, .ref om), (1, .int (hz_i y1)), (2, .int (hz_i x2))] → W p l e (headSpec wsX12_judge ({ frames := 8, cells := 0, slots := 0, locals := 201 } : Room)).room s m (List.toArray [.ref om, .int (hz_i y1)]) below meth c H locs 0 0 QQ (F0 m 201 ls []) := by
      intro A hw H locs ls hP hD hS hl
      refine lv_aload_n hx hb dX12_judge_201 rfl (lv_at hl 0 rfl) ?_
      refine lv_iload_n hx hb dX12_judge_202 rfl (lv_at hl 2 rfl) ?_
      have hFc := mw_free hD hS hA
      refine va_calli (va_runV (As := [.int (hz_i x2)]) (rest := []) ⟨hx, hb, hml, hown, hts⟩ (k_nextPlan l D _ om R C z A x2 _ hw) (cwV 1 hts gX12_judge_X12_nextPlan rfl rfl rfl (by decide +kernel) ⟨Nat.le_of_ble_eq_true rfl, Nat.le_of_ble_eq_true rfl⟩) ⟨hm_blind, va_recv hK hP (ci := 12) (q0 := 0) rfl rfl, hm_pre hP hK hD hE⟩ rfl rfl hl.1 rfl (lv_room (Nat.le_of_ble_eq_true rfl)) dX12_judge_203 ⟨Nat.le_of_ble_eq_true rfl, Nat.le_of_ble_eq_true rfl⟩) hS (fun q _ h => hFc q h) hFc (fun rv u t H1 locs ht hvm hw hB hz1 hk1 hS => ?_)
      obtain ⟨r_1, _, A_2⟩ := u
      obtain ⟨hP, hK1, hD1⟩ := hB
      rw [ht] at hP
      obtain ⟨hrv, hw⟩ := hw
      subst hrv
      have hD := hD1.weaken (fun k q _ h => hFc q.1 h)
      have hP : va_P D vwCl (mw_w om R C z A_2) H1 := hP
      have hD : va_D Ad (mw_w om R C z A_2) := hD
      generalize H1 = H at hP hS ⊢
      refine W.eq (g2 := F0 m 206 ls [.int (hz_i r_1)]) rfl ?_
      refine lv_istore_n (lv' := [(3, .int (hz_i r_1)), (0, .ref om), (1, .int (hz_i y1)), (2, .int (hz_i x2))]) hx hb dX12_judge_206 rfl hl (by decide) rfl (fun ls hl => ?_)
      refine lv_goto (tgt := 66) hx hb dX12_judge_207 (by decide) ?_
      exact (hP66 A_2 r_1).mp hw H locs ls hP hD hS (lv_sub hl [1, 2, 3, 0] rfl)
    have L169 : ∀ (A : Nat → Nat → Int) (x5 : Int), wp_judge_169 z A y1 x2 x5 P66 Q → ∀ (H : Heap) (locs : List Loc) (ls : Array Slot), va_P D vwCl (mw_w om R C z A) H → va_D Ad (mw_w om R C z A) → va_S Ad s.heap H locs → lv_has ls 6 [(0, .ref om), (1, .int (hz_i y1)), (2, .int (hz_i x2)), (5, .int (hz_i x5))] → W p l e (headSpec wsX12_judge ({ frames := 8, cells := 0, slots := 0, locals := 201 } : Room)).room s m (List.toArray [.ref om, .int (hz_i y1)]) below meth c H locs 0 0 QQ (F0 m 169 ls []) := by
      intro A x5 hw
      obtain ⟨P169, hP169⟩ : ∃ P : (Nat → Nat → Int) → Int → Prop, ∀ (A : Nat → Nat → Int) (x5 : Int), P A x5 ↔ (∀ (H : Heap) (locs : List Loc) (ls : Array Slot), va_P D vwCl (mw_w om R C z A) H → va_D Ad (mw_w om R C z A) → va_S Ad s.heap H locs → lv_has ls 6 [(0, .ref om), (1, .int (hz_i y1)), (2, .int (hz_i x2)), (5, .int (hz_i x5))] → W p l e (headSpec wsX12_judge ({ frames := 8, cells := 0, slots := 0, locals := 201 } : Room)).room s m (List.toArray [.ref om, .int (hz_i y1)]) below meth c H locs 0 0 QQ (F0 m 169 ls [])) := ⟨fun (A : Nat → Nat → Int) (x5 : Int) => ∀ (H : Heap) (locs : List Loc) (ls : Array Slot), va_P D vwCl (mw_w om R C z A) H → va_D Ad (mw_w om R C z A) → va_S Ad s.heap H locs → lv_has ls 6 [(0, .ref om), (1, .int (hz_i y1)), (2, .int (hz_i x2)), (5, .int (hz_i x5))] → W p l e (headSpec wsX12_judge ({ frames := 8, cells := 0, slots := 0, locals := 201 } : Room)).room s m (List.toArray [.ref om, .int (hz_i y1)]) below meth c H locs 0 0 QQ (F0 m 169 ls []), fun _ _ => Iff.rfl⟩
      refine (hP169 A x5).mp (hw P169 ?_)
      intro A x5 hw
      refine (hP169 A x5).mpr ?_
      intro H locs ls hP hD hS hl
      refine lv_iload hx hb dX12_judge_169 (lv_at hl 3 rfl) ?_
      refine lv_bipush (v := hz_i 10) hx hb dX12_judge_171 (by decide +kernel) ?_
      refine lv_iload_n hx hb dX12_judge_173 rfl (lv_at hl 2 rfl) ?_
      refine hz_imul hx hb dX12_judge_174 ?_
      refine lv_bipush (v := hz_i 10) hx hb dX12_judge_175 (by decide +kernel) ?_
      refine hz_iadd hx hb dX12_judge_177 ?_
      obtain ⟨h9a, hw⟩ := hw
      obtain ⟨h9b, hw⟩ := hw
      refine hz_icmp_ge (tgt := 201) hx hb dX12_judge_178 (by decide) h9a h9b (fun c_3 => ?_) (fun c_3 => ?_)
      · have hw := hw.1 c_3
        exact L201 A hw H locs ls hP hD hS (lv_sub hl [0, 1, 2] rfl)
      · have hw := hw.2 c_3
        refine lv_aload_n hx hb dX12_judge_181 rfl (lv_at hl 0 rfl) ?_
        refine mw_get (v := .ref (R 53)) hx hb hts hin12 hown hK hP 53 (by decide) (hts (.fieldLink RX12 211 "HiddenMovesModel" "replies" "[I") (List.mem_cons_of_mem _ (List.mem_append_left _ (List.mem_append_left _ (List.mem_of_getElem? (i := 3) rfl))))) (fun _ h9 => h9) rfl dX12_judge_182 ?_
        refine lv_iload hx hb dX12_judge_185 (lv_at hl 3 rfl) ?_
        refine lv_aload_n hx hb dX12_judge_187 rfl (lv_at hl 0 rfl) ?_
        refine mw_get (v := .ref (R 52)) hx hb hts hin12 hown hK hP 52 (by decide) (hts (.fieldLink RX12 208 "HiddenMovesModel" "plan" "[I") (List.mem_cons_of_mem _ (List.mem_append_left _ (List.mem_append_left _ (List.mem_of_getElem? (i := 4) rfl))))) (fun _ h9 => h9) rfl dX12_judge_188 ?_
        refine lv_iload hx hb dX12_judge_191 (lv_at hl 3 rfl) ?_
        obtain ⟨h9i, hw⟩ := hw
        refine mw_ild (k := 52) (n := 20) (i := x5) hx hb hK hP 39 38 rfl rfl h9i (by decide) dX12_judge_193 ?_
        obtain ⟨h9i, hw⟩ := hw
        refine mw_ist (k := 53) (n := 20) (i := x5) (v := A 52 (x5.toNat)) hx hb hK hP hD hS 40 39 rfl rfl (mw_a53 om R C z A) h9i (by decide) dX12_judge_194 (fun H locs hP hD hS => ?_)
        obtain ⟨A_4, hA_4⟩ : ∃ y : Nat → Nat → Int, y = hz_s A 53 x5 (A 52 (x5.toNat)) := ⟨_, rfl⟩
        rw [← hA_4] at hP hD
        have hw := hw A_4 hA_4
        obtain ⟨x5_5, hx5_5⟩ : ∃ y : Int, y = x5 + 1 := ⟨_, rfl⟩
        have hw := hw x5_5 hx5_5
        refine lv_iinc (v := hz_i x5_5) (lv' := [(5, .int (hz_i x5_5)), (0, .ref om), (1, .int (hz_i y1)), (2, .int (hz_i x2))]) hx hb dX12_judge_195 hl (k := 3) rfl (by rw [hx5_5]; exact hz_i_add _ _) (by decide) rfl (fun ls hl => ?_)
        refine lv_goto (tgt := 169) hx hb dX12_judge_198 (by decide) ?_
        exact (hP169 A_4 x5_5).mp hw H locs ls hP hD hS (lv_sub hl [1, 2, 3, 0] rfl)
    have L156 : ∀ (A : Nat → Nat → Int), wp_judge_156 z A y1 x2 P66 Q → ∀ (H : Heap) (locs : List Loc) (ls : Array Slot), va_P D vwCl (mw_w om R C z A) H → va_D Ad (mw_w om R C z A) → va_S Ad s.heap H locs → lv_has ls 6 [(0, .ref om), (1, .int (hz_i y1)), (2, .int (hz_i x2))] → W p l e (headSpec wsX12_judge ({ frames := 8, cells := 0, slots := 0, locals := 201 } : Room)).room s m (List.toArray [.ref om, .int (hz_i y1)]) below meth c H locs 0 0 QQ (F0 m 156 ls []) := by
      intro A hw H locs ls hP hD hS hl
      refine lv_aload_n hx hb dX12_judge_156 rfl (lv_at hl 0 rfl) ?_
      refine lv_iconst (v := hz_i 1) hx hb dX12_judge_157 (by decide +kernel) ?_
      refine lv_iload_n hx hb dX12_judge_158 rfl (lv_at hl 1 rfl) ?_
      refine hz_iadd hx hb dX12_judge_159 ?_
      have hFc := mw_free hD hS hA
      refine va_callv (va_runV (As := [.int (hz_i (1 + y1))]) (rest := []) ⟨hx, hb, hml, hown, hts⟩ (k_keep l D _ om R C z A (1 + y1) _ hw) (cwV 1 hts gX12_judge_X12_keep rfl rfl rfl (by decide +kernel) ⟨Nat.le_of_ble_eq_true rfl, Nat.le_of_ble_eq_true rfl⟩) ⟨hm_blind, va_recv hK hP (ci := 12) (q0 := 0) rfl rfl, hm_pre hP hK hD hE⟩ rfl rfl hl.1 rfl (lv_room (Nat.le_of_ble_eq_true rfl)) dX12_judge_160 ⟨Nat.le_of_ble_eq_true rfl, Nat.le_of_ble_eq_true rfl⟩) hS (fun q _ h => hFc q h) hFc (fun u t H1 locs ht hvm hw hB hz1 hk1 hS => ?_)
      obtain ⟨r_6, _, A_7⟩ := u
      obtain ⟨hP, hK1, hD1⟩ := hB
      rw [ht] at hP
      have hD := hD1.weaken (fun k q _ h => hFc q.1 h)
      have hP : va_P D vwCl (mw_w om R C z A_7) H1 := hP
      have hD : va_D Ad (mw_w om R C z A_7) := hD
      generalize H1 = H at hP hS ⊢
      refine W.eq (g2 := F0 m 163 ls []) rfl ?_
      refine lv_bipush (v := hz_i 10) hx hb dX12_judge_163 (by decide +kernel) ?_
      refine lv_iload_n hx hb dX12_judge_165 rfl (lv_at hl 2 rfl) ?_
      refine hz_imul hx hb dX12_judge_166 ?_
      refine hz_topi (fun x5_8 hx5_8 => ?_)
      have hw := hw x5_8 hx5_8
      refine lv_istore (lv' := [(5, .int (hz_i x5_8)), (0, .ref om), (1, .int (hz_i y1)), (2, .int (hz_i x2))]) hx hb dX12_judge_167 hl (by decide) rfl (fun ls hl => ?_)
      exact L169 A_7 x5_8 hw H locs ls hP hD hS (lv_sub hl [1, 2, 3, 0] rfl)
    have L125 : ∀ (A : Nat → Nat → Int) (t0 : Int), wp_judge_125 z A y1 x2 t0 P66 Q → ∀ (H : Heap) (locs : List Loc) (ls : Array Slot), va_P D vwCl (mw_w om R C z A) H → va_D Ad (mw_w om R C z A) → va_S Ad s.heap H locs → lv_has ls 6 [(0, .ref om), (1, .int (hz_i y1)), (2, .int (hz_i x2))] → W p l e (headSpec wsX12_judge ({ frames := 8, cells := 0, slots := 0, locals := 201 } : Room)).room s m (List.toArray [.ref om, .int (hz_i y1)]) below meth c H locs 0 0 QQ (F0 m 125 ls [.int (hz_i t0)]) := by
      intro A t0 hw H locs ls hP hD hS hl
      refine lv_istore (lv' := [(4, .int (hz_i t0)), (0, .ref om), (1, .int (hz_i y1)), (2, .int (hz_i x2))]) hx hb dX12_judge_125 hl (by decide) rfl (fun ls hl => ?_)
      refine lv_aload_n hx hb dX12_judge_127 rfl (lv_at hl 1 rfl) ?_
      refine mw_get (v := .ref (R 51)) hx hb hts hin12 hown hK hP 51 (by decide) (hts (.fieldLink RX12 205 "HiddenMovesModel" "isThere" "[Z") (List.mem_cons_of_mem _ (List.mem_append_left _ (List.mem_append_left _ (List.mem_of_getElem? (i := 2) rfl))))) (fun _ h9 => h9) rfl dX12_judge_128 ?_
      refine lv_iconst (v := hz_i 1) hx hb dX12_judge_131 (by decide +kernel) ?_
      refine lv_iload_n hx hb dX12_judge_132 rfl (lv_at hl 2 rfl) ?_
      refine hz_iadd hx hb dX12_judge_133 ?_
      obtain ⟨h9i, hw⟩ := hw
      refine mw_zld (k := 51) (n := 4) (i := 1 + y1) hx hb hK hP 38 37 rfl rfl h9i (by decide) dX12_judge_134 ?_
      obtain ⟨h9a, hw⟩ := hw
      refine hz_if_eq (tgt := 156) hx hb dX12_judge_135 (by decide) h9a (fun c_9 => ?_) (fun c_9 => ?_)
      · have hw := hw.1 c_9
        exact L156 A hw H locs ls hP hD hS (lv_sub hl [1, 2, 3] rfl)
      · have hw := hw.2 c_9
        refine lv_iload_n hx hb dX12_judge_138 rfl (lv_at hl 2 rfl) ?_
        refine lv_iconst (v := hz_i 1) hx hb dX12_judge_139 (by decide +kernel) ?_
        obtain ⟨h9a, hw⟩ := hw
        refine hz_icmp_ne (tgt := 151) hx hb dX12_judge_140 (by decide) h9a ⟨by decide, by decide⟩ (fun c_10 => ?_) (fun c_10 => ?_)
        · have hw := hw.1 c_10
          refine lv_iload hx hb dX12_judge_151 (lv_at hl 0 rfl) ?_
          obtain ⟨h9a, hw⟩ := hw
          refine hz_if_le (tgt := 201) hx hb dX12_judge_153 (by decide) h9a (fun c_11 => ?_) (fun c_11 => ?_)
          · have hw := hw.1 c_11
            exact L201 A hw H locs ls hP hD hS (lv_sub hl [1, 2, 3] rfl)
          · have hw := hw.2 c_11
            exact L156 A hw H locs ls hP hD hS (lv_sub hl [1, 2, 3] rfl)
        · have hw := hw.2 c_10
          refine lv_iload hx hb dX12_judge_143 (lv_at hl 0 rfl) ?_
          obtain ⟨h9a, hw⟩ := hw
          refine hz_if_ge (tgt := 201) hx hb dX12_judge_145 (by decide) h9a (fun c_12 => ?_) (fun c_12 => ?_)
          · have hw := hw.1 c_12
            exact L201 A hw H locs ls hP hD hS (lv_sub hl [1, 2, 3] rfl)
          · have hw := hw.2 c_12
            refine lv_goto (tgt := 156) hx hb dX12_judge_148 (by decide) ?_
            exact L156 A hw H locs ls hP hD hS (lv_sub hl [1, 2, 3] rfl)
    have L91 : ∀ (A : Nat → Nat → Int) (t0 : Int) (t1 : Int), wp_judge_91 z A y1 x2 t0 t1 P66 Q → ∀ (H : Heap) (locs : List Loc) (ls : Array Slot), va_P D vwCl (mw_w om R C z A) H → va_D Ad (mw_w om R C z A) → va_S Ad s.heap H locs → lv_has ls 6 [(0, .ref om), (1, .int (hz_i y1)), (2, .int (hz_i x2))] → W p l e (headSpec wsX12_judge ({ frames := 8, cells := 0, slots := 0, locals := 201 } : Room)).room s m (List.toArray [.ref om, .int (hz_i y1)]) below meth c H locs 0 0 QQ (F0 m 91 ls [.int (hz_i t0), .int (hz_i t1), .ref om]) := by
      intro A t0 t1 hw H locs ls hP hD hS hl
      have hFc := mw_free hD hS hA
      refine va_callv (va_runV (As := [.int (hz_i t1), .int (hz_i t0)]) (rest := []) ⟨hx, hb, hml, hown, hts⟩ (k_expectAll l D _ om R C z A t1 t0 _ hw) (cwV 2 hts gX12_judge_X12_expectAll rfl rfl rfl (by decide +kernel) ⟨Nat.le_of_ble_eq_true rfl, Nat.le_of_ble_eq_true rfl⟩) ⟨hm_blind, va_recv hK hP (ci := 12) (q0 := 0) rfl rfl, hm_pre hP hK hD hE⟩ rfl rfl hl.1 rfl (lv_room (Nat.le_of_ble_eq_true rfl)) dX12_judge_91 ⟨Nat.le_of_ble_eq_true rfl, Nat.le_of_ble_eq_true rfl⟩) hS (fun q _ h => hFc q h) hFc (fun u t H1 locs ht hvm hw hB hz1 hk1 hS => ?_)
      obtain ⟨r_13, _, A_14⟩ := u
      obtain ⟨hP, hK1, hD1⟩ := hB
      rw [ht] at hP
      have hD := hD1.weaken (fun k q _ h => hFc q.1 h)
      have hP : va_P D vwCl (mw_w om R C z A_14) H1 := hP
      have hD : va_D Ad (mw_w om R C z A_14) := hD
      generalize H1 = H at hP hS ⊢
      refine W.eq (g2 := F0 m 94 ls []) rfl ?_
      refine lv_aload_n hx hb dX12_judge_94 rfl (lv_at hl 0 rfl) ?_
      refine mw_get (v := .ref (R 51)) hx hb hts hin12 hown hK hP 51 (by decide) (hts (.fieldLink RX12 205 "HiddenMovesModel" "isThere" "[Z") (List.mem_cons_of_mem _ (List.mem_append_left _ (List.mem_append_left _ (List.mem_of_getElem? (i := 2) rfl))))) (fun _ h9 => h9) rfl dX12_judge_95 ?_
      refine lv_iconst (v := hz_i 1) hx hb dX12_judge_98 (by decide +kernel) ?_
      refine lv_iload_n hx hb dX12_judge_99 rfl (lv_at hl 1 rfl) ?_
      refine hz_iadd hx hb dX12_judge_100 ?_
      obtain ⟨h9i, hw⟩ := hw
      refine mw_zld (k := 51) (n := 4) (i := 1 + y1) hx hb hK hP 38 37 rfl rfl h9i (by decide) dX12_judge_101 ?_
      obtain ⟨h9a, hw⟩ := hw
      refine hz_if_eq (tgt := 124) hx hb dX12_judge_102 (by decide) h9a (fun c_15 => ?_) (fun c_15 => ?_)
      · have hw := hw.1 c_15
        refine lv_iconst (v := hz_i 0) hx hb dX12_judge_124 (by decide +kernel) ?_
        exact L125 A_14 0 hw H locs ls hP hD hS (lv_sub hl [0, 1, 2] rfl)
      · have hw := hw.2 c_15
        refine lv_aload_n hx hb dX12_judge_105 rfl (lv_at hl 0 rfl) ?_
        refine lv_sipush (v := hz_i 4239) hx hb dX12_judge_106 (by decide +kernel) ?_
        refine lv_sipush (v := hz_i 4231) hx hb dX12_judge_109 (by decide +kernel) ?_
        refine lv_iconst (v := hz_i 2) hx hb dX12_judge_112 (by decide +kernel) ?_
        refine lv_iconst (v := hz_i 1) hx hb dX12_judge_113 (by decide +kernel) ?_
        refine lv_iload_n hx hb dX12_judge_114 rfl (lv_at hl 1 rfl) ?_
        refine hz_iadd hx hb dX12_judge_115 ?_
        refine hz_imul hx hb dX12_judge_116 ?_
        refine hz_iadd hx hb dX12_judge_117 ?_
        have hFc := mw_free hD hS hA
        refine va_calli (va_runV (As := [.int (hz_i 4239), .int (hz_i (4231 + (2 * (1 + y1))))]) (rest := []) ⟨hx, hb, hml, hown, hts⟩ (k_compareFractions l D _ om R C z A_14 4239 (4231 + (2 * (1 + y1))) _ hw) (cwV 2 hts gX12_judge_X12_compareFractions rfl rfl rfl (by decide +kernel) ⟨Nat.le_of_ble_eq_true rfl, Nat.le_of_ble_eq_true rfl⟩) ⟨hm_blind, va_recv hK hP (ci := 12) (q0 := 0) rfl rfl, hm_pre hP hK hD hE⟩ rfl rfl hl.1 rfl (lv_room (Nat.le_of_ble_eq_true rfl)) dX12_judge_118 ⟨Nat.le_of_ble_eq_true rfl, Nat.le_of_ble_eq_true rfl⟩) hS (fun q _ h => hFc q h) hFc (fun rv u t H1 locs ht hvm hw hB hz1 hk1 hS => ?_)
        obtain ⟨r_16, _, A_17⟩ := u
        obtain ⟨hP, hK1, hD1⟩ := hB
        rw [ht] at hP
        obtain ⟨hrv, hw⟩ := hw
        subst hrv
        have hD := hD1.weaken (fun k q _ h => hFc q.1 h)
        have hP : va_P D vwCl (mw_w om R C z A_17) H1 := hP
        have hD : va_D Ad (mw_w om R C z A_17) := hD
        generalize H1 = H at hP hS ⊢
        refine W.eq (g2 := F0 m 121 ls [.int (hz_i r_16)]) rfl ?_
        refine lv_goto (tgt := 125) hx hb dX12_judge_121 (by decide) ?_
        exact L125 A_17 r_16 hw H locs ls hP hD hS (lv_sub hl [0, 1, 2] rfl)
    have L81 : ∀ (A : Nat → Nat → Int) (t0 : Int), wp_judge_81 z A y1 x2 t0 P66 Q → ∀ (H : Heap) (locs : List Loc) (ls : Array Slot), va_P D vwCl (mw_w om R C z A) H → va_D Ad (mw_w om R C z A) → va_S Ad s.heap H locs → lv_has ls 6 [(0, .ref om), (1, .int (hz_i y1)), (2, .int (hz_i x2))] → W p l e (headSpec wsX12_judge ({ frames := 8, cells := 0, slots := 0, locals := 201 } : Room)).room s m (List.toArray [.ref om, .int (hz_i y1)]) below meth c H locs 0 0 QQ (F0 m 81 ls [.int (hz_i t0), .ref om]) := by
      intro A t0 hw H locs ls hP hD hS hl
      refine lv_iload_n hx hb dX12_judge_81 rfl (lv_at hl 1 rfl) ?_
      refine lv_iconst (v := hz_i 1) hx hb dX12_judge_82 (by decide +kernel) ?_
      obtain ⟨h9a, hw⟩ := hw
      refine hz_icmp_ne (tgt := 90) hx hb dX12_judge_83 (by decide) h9a ⟨by decide, by decide⟩ (fun c_18 => ?_) (fun c_18 => ?_)
      · have hw := hw.1 c_18
        refine lv_iconst (v := hz_i 0) hx hb dX12_judge_90 (by decide +kernel) ?_
        exact L91 A 0 t0 hw H locs ls hP hD hS (lv_sub hl [0, 1, 2] rfl)
      · have hw := hw.2 c_18
        refine lv_iconst (v := hz_i 1) hx hb dX12_judge_86 (by decide +kernel) ?_
        refine lv_goto (tgt := 91) hx hb dX12_judge_87 (by decide) ?_
        exact L91 A 1 t0 hw H locs ls hP hD hS (lv_sub hl [0, 1, 2] rfl)
    refine lv_iload_n hx hb dX12_judge_66 rfl (lv_at hl 3 rfl) ?_
    obtain ⟨h9a, hw⟩ := hw
    refine hz_if_eq (tgt := 210) hx hb dX12_judge_67 (by decide) h9a (fun c_19 => ?_) (fun c_19 => ?_)
    · have hw := hw.1 c_19
      subst hQQ
      subst hAe
      exact W.vret hx hb hr (fun t ht hW => ⟨⟨(0, z, A), rfl, hw, by rw [ht]; exact hP, va_K.moved hW.alike hK, hD⟩, hS.F ht⟩) hS.2.2 dX12_judge_210
    · have hw := hw.2 c_19
      refine lv_aload_n hx hb dX12_judge_70 rfl (lv_at hl 0 rfl) ?_
      refine lv_iload_n hx hb dX12_judge_71 rfl (lv_at hl 1 rfl) ?_
      refine lv_iconst (v := hz_i 2) hx hb dX12_judge_72 (by decide +kernel) ?_
      obtain ⟨h9a, hw⟩ := hw
      refine hz_icmp_ne (tgt := 80) hx hb dX12_judge_73 (by decide) h9a ⟨by decide, by decide⟩ (fun c_20 => ?_) (fun c_20 => ?_)
      · have hw := hw.1 c_20
        refine lv_iconst (v := hz_i 0) hx hb dX12_judge_80 (by decide +kernel) ?_
        exact L81 A 0 hw H locs ls hP hD hS (lv_sub hl [0, 1, 2] rfl)
      · have hw := hw.2 c_20
        refine lv_iconst (v := hz_i 1) hx hb dX12_judge_76 (by decide +kernel) ?_
        refine lv_goto (tgt := 81) hx hb dX12_judge_77 (by decide) ?_
        exact L81 A 1 hw H locs ls hP hD hS (lv_sub hl [0, 1, 2] rfl)
  have L35 : ∀ (z : Nat → Int) (A : Nat → Nat → Int) (t0 : Int), wp_judge_35 z A y1 t0  Q → ∀ (H : Heap) (locs : List Loc) (ls : Array Slot), va_P D vwCl (mw_w om R C z A) H → va_D Ad (mw_w om R C z A) → va_S Ad s.heap H locs → lv_has ls 6 [(0, .ref om), (1, .int (hz_i y1))] → W p l e (headSpec wsX12_judge ({ frames := 8, cells := 0, slots := 0, locals := 201 } : Room)).room s m (List.toArray [.ref om, .int (hz_i y1)]) below meth c H locs 0 0 QQ (F0 m 35 ls [.int (hz_i t0), .ref om]) := by
    intro z A t0 hw H locs ls hP hD hS hl
    refine mw_put (ty := .int) (v := .int (hz_i t0)) hx hb hts hin12 hown hK hP hD hS 3 (by decide) (hts (.fieldLink RX12 223 "HiddenMovesModel" "thrown" "I") (List.mem_cons_of_mem _ (List.mem_append_left _ (List.mem_append_left _ (List.mem_of_getElem? (i := 1) rfl))))) (fun _ h9 => h9) rfl (by decide +kernel) rfl rfl (mw_s3 R z t0) dX12_judge_35 (fun H locs hP hD hS => ?_)
    obtain ⟨z_21, hz_21⟩ : ∃ y : Nat → Int, y = lp_U z 3 t0 := ⟨_, rfl⟩
    rw [← hz_21] at hP hD
    have hw := hw z_21 hz_21
    refine lv_aload_n hx hb dX12_judge_38 rfl (lv_at hl 0 rfl) ?_
    refine mw_get (v := .int (hz_i (z_21 3))) hx hb hts hin12 hown hK hP 3 (by decide) (hts (.fieldLink RX12 223 "HiddenMovesModel" "thrown" "I") (List.mem_cons_of_mem _ (List.mem_append_left _ (List.mem_append_left _ (List.mem_of_getElem? (i := 1) rfl))))) (fun _ h9 => h9) rfl dX12_judge_39 ?_
    obtain ⟨h9a, hw⟩ := hw
    refine hz_if_le (tgt := 46) hx hb dX12_judge_42 (by decide) h9a (fun c_22 => ?_) (fun c_22 => ?_)
    · have hw := hw.1 c_22
      refine lv_iconst (v := hz_i 2) hx hb dX12_judge_46 (by decide +kernel) ?_
      refine lv_iload_n hx hb dX12_judge_47 rfl (lv_at hl 1 rfl) ?_
      refine hz_isub hx hb dX12_judge_48 ?_
      refine hz_topi (fun x2_23 hx2_23 => ?_)
      have hw := hw x2_23 hx2_23
      refine lv_istore_n (lv' := [(2, .int (hz_i x2_23)), (0, .ref om), (1, .int (hz_i y1))]) hx hb dX12_judge_49 rfl hl (by decide) rfl (fun ls hl => ?_)
      refine lv_aload_n hx hb dX12_judge_50 rfl (lv_at hl 1 rfl) ?_
      refine mw_get (v := .ref (R 51)) hx hb hts hin12 hown hK hP 51 (by decide) (hts (.fieldLink RX12 205 "HiddenMovesModel" "isThere" "[Z") (List.mem_cons_of_mem _ (List.mem_append_left _ (List.mem_append_left _ (List.mem_of_getElem? (i := 2) rfl))))) (fun _ h9 => h9) rfl dX12_judge_51 ?_
      refine lv_iconst (v := hz_i 1) hx hb dX12_judge_54 (by decide +kernel) ?_
      refine lv_iload_n hx hb dX12_judge_55 rfl (lv_at hl 2 rfl) ?_
      refine hz_iadd hx hb dX12_judge_56 ?_
      refine lv_iconst (v := hz_i 0) hx hb dX12_judge_57 (by decide +kernel) ?_
      obtain ⟨h9i, hw⟩ := hw
      refine mw_zst (k := 51) (n := 4) (i := 1 + y1) (v := 0) hx hb hK hP hD hS 38 37 rfl rfl (mw_a51 om R C z_21 A) h9i (by decide) (by decide) dX12_judge_58 (fun H locs hP hD hS => ?_)
      obtain ⟨A_24, hA_24⟩ : ∃ y : Nat → Nat → Int, y = hz_s A 51 (1 + y1) 0 := ⟨_, rfl⟩
      rw [← hA_24] at hP hD
      have hw := hw A_24 hA_24
      refine lv_aload_n hx hb dX12_judge_59 rfl (lv_at hl 1 rfl) ?_
      refine lv_iload_n hx hb dX12_judge_60 rfl (lv_at hl 0 rfl) ?_
      have hFc := mw_free hD hS hA
      refine va_callv (va_runV (As := [.int (hz_i x2_23)]) (rest := []) ⟨hx, hb, hml, hown, hts⟩ (k_firstPlan l D _ om R C z_21 A_24 x2_23 _ hw) (cwV 1 hts gX12_judge_X12_firstPlan rfl rfl rfl (by decide +kernel) ⟨Nat.le_of_ble_eq_true rfl, Nat.le_of_ble_eq_true rfl⟩) ⟨hm_blind, va_recv hK hP (ci := 12) (q0 := 0) rfl rfl, hm_pre hP hK hD hE⟩ rfl rfl hl.1 rfl (lv_room (Nat.le_of_ble_eq_true rfl)) dX12_judge_61 ⟨Nat.le_of_ble_eq_true rfl, Nat.le_of_ble_eq_true rfl⟩) hS (fun q _ h => hFc q h) hFc (fun u t H1 locs ht hvm hw hB hz1 hk1 hS => ?_)
      obtain ⟨r_25, _, A_26⟩ := u
      obtain ⟨hP, hK1, hD1⟩ := hB
      rw [ht] at hP
      have hD := hD1.weaken (fun k q _ h => hFc q.1 h)
      have hP : va_P D vwCl (mw_w om R C z_21 A_26) H1 := hP
      have hD : va_D Ad (mw_w om R C z_21 A_26) := hD
      generalize H1 = H at hP hS ⊢
      refine W.eq (g2 := F0 m 64 ls []) rfl ?_
      refine lv_iconst (v := hz_i 1) hx hb dX12_judge_64 (by decide +kernel) ?_
      refine lv_istore_n (lv' := [(3, .int (hz_i 1)), (2, .int (hz_i x2_23)), (0, .ref om), (1, .int (hz_i y1))]) hx hb dX12_judge_65 rfl hl (by decide) rfl (fun ls hl => ?_)
      exact L66 z_21 A_26 x2_23 1 hw H locs ls hP hD hS (lv_sub hl [2, 3, 1, 0] rfl)
    · have hw := hw.2 c_22
      subst hQQ
      subst hAe
      exact W.vret hx hb hr (fun t ht hW => ⟨⟨(0, z_21, A), rfl, hw, by rw [ht]; exact hP, va_K.moved hW.alike hK, hD⟩, hS.F ht⟩) hS.2.2 dX12_judge_45
  have L30 : ∀ (z : Nat → Int) (A : Nat → Nat → Int), wp_judge_30 z A y1  Q → ∀ (H : Heap) (locs : List Loc) (ls : Array Slot), va_P D vwCl (mw_w om R C z A) H → va_D Ad (mw_w om R C z A) → va_S Ad s.heap H locs → lv_has ls 6 [(0, .ref om), (1, .int (hz_i y1))] → W p l e (headSpec wsX12_judge ({ frames := 8, cells := 0, slots := 0, locals := 201 } : Room)).room s m (List.toArray [.ref om, .int (hz_i y1)]) below meth c H locs 0 0 QQ (F0 m 30 ls [.ref om]) := by
    intro z A hw H locs ls hP hD hS hl
    refine lv_iconst (v := hz_i 2) hx hb dX12_judge_30 (by decide +kernel) ?_
    refine lv_goto (tgt := 35) hx hb dX12_judge_31 (by decide) ?_
    exact L35 z A 2 hw H locs ls hP hD hS (lv_sub hl [0, 1] rfl)
  have L15 : ∀ (z : Nat → Int) (A : Nat → Nat → Int), wp_judge_15 z A y1  Q → ∀ (H : Heap) (locs : List Loc) (ls : Array Slot), va_P D vwCl (mw_w om R C z A) H → va_D Ad (mw_w om R C z A) → va_S Ad s.heap H locs → lv_has ls 6 [(0, .ref om), (1, .int (hz_i y1))] → W p l e (headSpec wsX12_judge ({ frames := 8, cells := 0, slots := 0, locals := 201 } : Room)).room s m (List.toArray [.ref om, .int (hz_i y1)]) below meth c H locs 0 0 QQ (F0 m 15 ls [.ref om]) := by
    intro z A hw H locs ls hP hD hS hl
    refine lv_aload_n hx hb dX12_judge_15 rfl (lv_at hl 0 rfl) ?_
    refine mw_get (v := .int (hz_i (z 34))) hx hb hts hin12 hown hK hP 34 (by decide) (hts (.fieldLink RX12 331 "HiddenMovesModel" "known" "Z") (List.mem_cons_of_mem _ (List.mem_append_left _ (List.mem_append_left _ (List.mem_of_getElem? (i := 0) rfl))))) (fun _ h9 => h9) rfl dX12_judge_16 ?_
    obtain ⟨h9a, hw⟩ := hw
    refine hz_if_eq (tgt := 30) hx hb dX12_judge_19 (by decide) h9a (fun c_27 => ?_) (fun c_27 => ?_)
    · have hw := hw.1 c_27
      exact L30 z A hw H locs ls hP hD hS (lv_sub hl [0, 1] rfl)
    · have hw := hw.2 c_27
      refine lv_aload_n hx hb dX12_judge_22 rfl (lv_at hl 0 rfl) ?_
      refine lv_iload_n hx hb dX12_judge_23 rfl (lv_at hl 1 rfl) ?_
      have hFc := mw_free hD hS hA
      refine va_calli (va_runV (As := [.int (hz_i y1)]) (rest := [.ref om]) ⟨hx, hb, hml, hown, hts⟩ (k_isGood l D _ om R C z A y1 _ hw) (cwV 1 hts gX12_judge_X12_isGood rfl rfl rfl (by decide +kernel) ⟨Nat.le_of_ble_eq_true rfl, Nat.le_of_ble_eq_true rfl⟩) ⟨hm_blind, va_recv hK hP (ci := 12) (q0 := 0) rfl rfl, hm_pre hP hK hD hE⟩ rfl rfl hl.1 rfl (lv_room (Nat.le_of_ble_eq_true rfl)) dX12_judge_24 ⟨Nat.le_of_ble_eq_true rfl, Nat.le_of_ble_eq_true rfl⟩) hS (fun q _ h => hFc q h) hFc (fun rv u t H1 locs ht hvm hw hB hz1 hk1 hS => ?_)
      obtain ⟨r_28, _, _⟩ := u
      obtain ⟨hP, hK1, hD1⟩ := hB
      rw [ht] at hP
      obtain ⟨hrv, hw⟩ := hw
      subst hrv
      have hD := hD1.weaken (fun k q _ h => hFc q.1 h)
      have hP : va_P D vwCl (mw_w om R C z A) H1 := hP
      have hD : va_D Ad (mw_w om R C z A) := hD
      generalize H1 = H at hP hS ⊢
      refine W.eq (g2 := F0 m 27 ls [.int (hz_i r_28), .ref om]) rfl ?_
      obtain ⟨h9a, hw⟩ := hw
      refine hz_if_ne (tgt := 34) hx hb dX12_judge_27 (by decide) h9a (fun c_29 => ?_) (fun c_29 => ?_)
      · have hw := hw.1 c_29
        refine lv_iconst (v := hz_i 0) hx hb dX12_judge_34 (by decide +kernel) ?_
        exact L35 z A 0 hw H locs ls hP hD hS (lv_sub hl [0, 1] rfl)
      · have hw := hw.2 c_29
        exact L30 z A hw H locs ls hP hD hS (lv_sub hl [0, 1] rfl)
  have hP := hP0; have hD := hD0; have hS := hS0; have hl := hl0; have hw := hw0
  obtain ⟨H, hH⟩ : ∃ H : Heap, H = s.heap := ⟨_, rfl⟩
  obtain ⟨locs, hlocs⟩ : ∃ L : List Loc, L = [] := ⟨_, rfl⟩
  rw [← hH] at hP
  have hS : va_S Ad s.heap H locs := by rw [hH, hlocs]; exact hS
  refine mw_HL hH hlocs ?_
  refine lv_aload_n hx hb dX12_judge_0 rfl (lv_at hl 0 rfl) ?_
  refine lv_iload_n hx hb dX12_judge_1 rfl (lv_at hl 1 rfl) ?_
  refine lv_iconst (v := hz_i 1) hx hb dX12_judge_2 (by decide +kernel) ?_
  obtain ⟨h9a, hw⟩ := hw
  refine hz_icmp_eq (tgt := 15) hx hb dX12_judge_3 (by decide) h9a ⟨by decide, by decide⟩ (fun c_30 => ?_) (fun c_30 => ?_)
  · have hw := hw.1 c_30
    exact L15 z A hw H locs ls hP hD hS (lv_sub hl [0, 1] rfl)
  · have hw := hw.2 c_30
    refine lv_iload_n hx hb dX12_judge_6 rfl (lv_at hl 1 rfl) ?_
    refine lv_iconst (v := hz_i 2) hx hb dX12_judge_7 (by decide +kernel) ?_
    obtain ⟨h9a, hw⟩ := hw
    refine hz_icmp_eq (tgt := 15) hx hb dX12_judge_8 (by decide) h9a ⟨by decide, by decide⟩ (fun c_31 => ?_) (fun c_31 => ?_)
    · have hw := hw.1 c_31
      exact L15 z A hw H locs ls hP hD hS (lv_sub hl [0, 1] rfl)
    · have hw := hw.2 c_31
      refine lv_iconst (v := hz_i 1) hx hb dX12_judge_11 (by decide +kernel) ?_
      refine lv_goto (tgt := 35) hx hb dX12_judge_12 (by decide) ?_
      exact L35 z A 1 hw H locs ls hP hD hS (lv_sub hl [0, 1] rfl)
