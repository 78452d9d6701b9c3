-- 17.c00
noncomputable def wp_cj6_74 (L : List Nat) (K : Nat → cw_K) (z : Nat → Nat → Int) (r : Nat → Nat → Nat) (A : Nat → Nat → Int) (x0 : Int) (x1 : Int) (Q : Int → Prop) : Prop := ∀ x9_1 : Int, hz_rI x9_1 → x9_1 % 4294967296 = x0 % 4294967296 / 2 → Q (x1 + x9_1)
noncomputable def wp_cj6_62 (L : List Nat) (K : Nat → cw_K) (z : Nat → Nat → Int) (r : Nat → Nat → Nat) (A : Nat → Nat → Int) (x0 : Int) (x1 : Int) (Q : Int → Prop) : Prop := hz_rI x0 ∧ ((x0 ≤ 4 → wp_cj6_74 L K z r A x0 x1  Q) ∧ (¬ (x0 ≤ 4) → ∀ x1_3 : Int, x1_3 = x1 + 2 → ∀ x9_4 : Int, hz_rI x9_4 → x9_4 % 4294967296 = x0 % 4294967296 / 4 → wp_cj6_74 L K z r A x9_4 x1_3  Q))
noncomputable def wp_cj6_49 (L : List Nat) (K : Nat → cw_K) (z : Nat → Nat → Int) (r : Nat → Nat → Nat) (A : Nat → Nat → Int) (x0 : Int) (x1 : Int) (Q : Int → Prop) : Prop := hz_rI x0 ∧ ((x0 ≤ 16 → wp_cj6_62 L K z r A x0 x1  Q) ∧ (¬ (x0 ≤ 16) → ∀ x1_6 : Int, x1_6 = x1 + 4 → ∀ x9_7 : Int, hz_rI x9_7 → x9_7 % 4294967296 = x0 % 4294967296 / 16 → wp_cj6_62 L K z r A x9_7 x1_6  Q))
noncomputable def wp_cj6_34 (L : List Nat) (K : Nat → cw_K) (z : Nat → Nat → Int) (r : Nat → Nat → Nat) (A : Nat → Nat → Int) (x0 : Int) (x1 : Int) (Q : Int → Prop) : Prop := hz_rI x0 ∧ ((x0 ≤ 256 → wp_cj6_49 L K z r A x0 x1  Q) ∧ (¬ (x0 ≤ 256) → ∀ x1_9 : Int, x1_9 = x1 + 8 → ∀ x9_10 : Int, hz_rI x9_10 → x9_10 % 4294967296 = x0 % 4294967296 / 256 → wp_cj6_49 L K z r A x9_10 x1_9  Q))
noncomputable def wp_cj6 (L : List Nat) (K : Nat → cw_K) (z : Nat → Nat → Int) (r : Nat → Nat → Nat) (A : Nat → Nat → Int) (y0 : Int) (Q : Int → Prop) : Prop := ∀ x9_11 : Int, hz_rI x9_11 → x9_11 % 4294967296 = ((((-1 - y0) % 4294967296).toNat &&& ((y0 - 1) % 4294967296).toNat : Nat) : Int) → hz_rI x9_11 ∧ ((0 < x9_11 → hz_rI x9_11 ∧ ((x9_11 ≤ 65536 → wp_cj6_34 L K z r A x9_11 1  Q) ∧ (¬ (x9_11 ≤ 65536) → ∀ x1_14 : Int, x1_14 = 1 + 16 → ∀ x9_15 : Int, hz_rI x9_15 → x9_15 % 4294967296 = x9_11 % 4294967296 / 65536 → wp_cj6_34 L K z r A x9_15 x1_14  Q))) ∧ (¬ (0 < x9_11) → ∀ x9_16 : Int, hz_rI x9_16 → x9_16 % 4294967296 = (((x9_11 % 4294967296).toNat &&& ((32 : Int) % 4294967296).toNat : Nat) : Int) → Q x9_16))
set_option maxHeartbeats 4000000 in
set_option maxRecDepth 100000 in
theorem k_cj6 (l : Launch) (D : va_G) (sz : Nat) (C : Nat → ClassId) (L : List Nat) (K : Nat → cw_K) (z : Nat → Nat → Int) (r : Nat → Nat → Nat) (A : Nat → Nat → Int) (y0 : Int) (Q : Int → Prop) (hw : wp_cj6 L K z r A y0 Q) : Met l yJ6_numberOfTrailingZeros_0f7a4 wsJ6_numberOfTrailingZeros_0f7a4 ({ frames := 0, cells := 0, slots := 0, locals := 0 } : Room) (va_Pc [.int (hz_i y0)] (hm_P D (cw_w C L K z r A) (cw_t C) sz)) (va_Qi (S := Int × (Nat → Nat → Int) × (Nat → Nat → Nat) × (Nat → Nat → Int)) (fun r u => r = hz_i u.1 ∧ Q u.1) (fun u t => hm_B D (va_A (cw_w C L K z r A) sz) (cw_w C L K z r A) (cw_t C) t) (va_A (cw_w C L K z r A) sz)) 0 0 (va_A (cw_w C L K z r A) sz) := by
  refine Met.ofW (cc := cJ6_numberOfTrailingZeros_0f7a4) (maxL := 2) (ret := (some .int)) (by decide) rfl ?_
  intro p e s m args below meth c s₁ B hml hv
  obtain ⟨rfl, hsz, hP, hK, hD0, hE⟩ := hv
  have hx := B.exec
  have hb := B.bytes
  have hr := B.returns
  have hts := atoms_spec (ws := wsJ6_numberOfTrailingZeros_0f7a4) B.pre
  have hown : s.vm.findClass RJ6 = some m.cls := findClass_of_methodNamed B.named
  have hlocks := B.notSynchronized
  subst hsz
  have hD := hD0.self (sz := s.heap.size)
  generalize hAe : va_A (cw_w C L K z r A) s.heap.size = Ad at hD ⊢
  have hA : ∀ q : Nat, s.heap.size ≤ q → Ad q := fun q h => by rw [← hAe]; exact Or.inr h
  have hS : va_S Ad s.heap s.heap [] := va_S.rf
  have hl := lv_entry ([.int (hz_i y0)]) (n := 2) (Nat.le_of_ble_eq_true rfl)
  rw [lg_entry_eq]
  generalize (lg_sl ([.int (hz_i y0)]) ++ List.replicate (2 - (lg_sl ([.int (hz_i y0)])).length) Slot.unset).toArray = ls at hl ⊢
  have hl : lv_has ls 2 [(0, .int (hz_i y0))] := hl
  refine mw_Q (fun QQ hQQ => ?_)
  have hP0 := hP; have hD0 := hD; have hS0 := hS; have hl0 := hl; have hw0 := hw
  clear hP hD hS hl hw
  have L74 : ∀ (x0 : Int) (x1 : Int), wp_cj6_74 L K z r A x0 x1  Q → ∀ (H : Heap) (locs : List Loc) (ls : Array Slot), va_P D vwCl (cw_w C L K z r A) H → va_D Ad (cw_w C L K z r A) → va_S Ad s.heap H locs → lv_has ls 2 [(0, .int (hz_i x0)), (1, .int (hz_i x1))] → W p l e (headSpec wsJ6_numberOfTrailingZeros_0f7a4 ({ frames := 0, cells := 0, slots := 0, locals := 0 } : Room)).room s m (List.toArray [.int (hz_i y0)]) below meth c H locs 0 0 QQ (F0 m 74 ls []) := by
    intro x0 x1 hw H locs ls hP hD hS hl
    refine lv_iload_n hx hb dJ6_numberOfTrailingZeros_0f7a4_74 rfl (lv_at hl 1 rfl) ?_
    refine lv_iload_n hx hb dJ6_numberOfTrailingZeros_0f7a4_75 rfl (lv_at hl 0 rfl) ?_
    refine lv_iconst (v := hz_i 1) hx hb dJ6_numberOfTrailingZeros_0f7a4_76 (by decide +kernel) ?_
    refine cw_iushr (P := 2) (d := 1) hx hb dJ6_numberOfTrailingZeros_0f7a4_77 (by decide +kernel) (by decide +kernel) (fun x9_1 hx9_1a hx9_1b => ?_)
    have hw := hw x9_1 hx9_1a hx9_1b
    refine hz_iadd hx hb dJ6_numberOfTrailingZeros_0f7a4_78 ?_
    subst hQQ
    subst hAe
    exact W.iret (v := hz_i (x1 + x9_1)) hx hb hr (fun t ht hW => ⟨⟨hz_i (x1 + x9_1), (x1 + x9_1, z, r, A), rfl, ⟨rfl, hw⟩, by rw [ht]; exact hP, va_K.moved hW.alike hK, hD⟩, hS.F ht⟩) hS.2.2 dJ6_numberOfTrailingZeros_0f7a4_79
  have L62 : ∀ (x0 : Int) (x1 : Int), wp_cj6_62 L K z r A x0 x1  Q → ∀ (H : Heap) (locs : List Loc) (ls : Array Slot), va_P D vwCl (cw_w C L K z r A) H → va_D Ad (cw_w C L K z r A) → va_S Ad s.heap H locs → lv_has ls 2 [(0, .int (hz_i x0)), (1, .int (hz_i x1))] → W p l e (headSpec wsJ6_numberOfTrailingZeros_0f7a4 ({ frames := 0, cells := 0, slots := 0, locals := 0 } : Room)).room s m (List.toArray [.int (hz_i y0)]) below meth c H locs 0 0 QQ (F0 m 62 ls []) := by
    intro x0 x1 hw H locs ls hP hD hS hl
    refine lv_iload_n hx hb dJ6_numberOfTrailingZeros_0f7a4_62 rfl (lv_at hl 0 rfl) ?_
    refine lv_iconst (v := hz_i 4) hx hb dJ6_numberOfTrailingZeros_0f7a4_63 (by decide +kernel) ?_
    obtain ⟨h9a, hw⟩ := hw
    refine hz_icmp_le (tgt := 74) hx hb dJ6_numberOfTrailingZeros_0f7a4_64 (by decide) h9a ⟨by decide, by decide⟩ (fun c_2 => ?_) (fun c_2 => ?_)
    · have hw := hw.1 c_2
      exact L74 x0 x1 hw H locs ls hP hD hS (lv_sub hl [0, 1] rfl)
    · have hw := hw.2 c_2
      obtain ⟨x1_3, hx1_3⟩ : ∃ y : Int, y = x1 + 2 := ⟨_, rfl⟩
      have hw := hw x1_3 hx1_3
      refine lv_iinc (v := hz_i x1_3) (lv' := [(1, .int (hz_i x1_3)), (0, .int (hz_i x0))]) hx hb dJ6_numberOfTrailingZeros_0f7a4_67 hl (k := 1) rfl (by rw [hx1_3]; exact hz_i_add _ _) (by decide) rfl (fun ls hl => ?_)
      refine lv_iload_n hx hb dJ6_numberOfTrailingZeros_0f7a4_70 rfl (lv_at hl 1 rfl) ?_
      refine lv_iconst (v := hz_i 2) hx hb dJ6_numberOfTrailingZeros_0f7a4_71 (by decide +kernel) ?_
      refine cw_iushr (P := 4) (d := 2) hx hb dJ6_numberOfTrailingZeros_0f7a4_72 (by decide +kernel) (by decide +kernel) (fun x9_4 hx9_4a hx9_4b => ?_)
      have hw := hw x9_4 hx9_4a hx9_4b
      refine lv_istore_n (lv' := [(0, .int (hz_i x9_4)), (1, .int (hz_i x1_3))]) hx hb dJ6_numberOfTrailingZeros_0f7a4_73 rfl hl (by decide) rfl (fun ls hl => ?_)
      exact L74 x9_4 x1_3 hw H locs ls hP hD hS (lv_sub hl [0, 1] rfl)
  have L49 : ∀ (x0 : Int) (x1 : Int), wp_cj6_49 L K z r A x0 x1  Q → ∀ (H : Heap) (locs : List Loc) (ls : Array Slot), va_P D vwCl (cw_w C L K z r A) H → va_D Ad (cw_w C L K z r A) → va_S Ad s.heap H locs → lv_has ls 2 [(0, .int (hz_i x0)), (1, .int (hz_i x1))] → W p l e (headSpec wsJ6_numberOfTrailingZeros_0f7a4 ({ frames := 0, cells := 0, slots := 0, locals := 0 } : Room)).room s m (List.toArray [.int (hz_i y0)]) below meth c H locs 0 0 QQ (F0 m 49 ls []) := by
    intro x0 x1 hw H locs ls hP hD hS hl
    refine lv_iload_n hx hb dJ6_numberOfTrailingZeros_0f7a4_49 rfl (lv_at hl 0 rfl) ?_
    refine lv_bipush (v := hz_i 16) hx hb dJ6_numberOfTrailingZeros_0f7a4_50 (by decide +kernel) ?_
    obtain ⟨h9a, hw⟩ := hw
    refine hz_icmp_le (tgt := 62) hx hb dJ6_numberOfTrailingZeros_0f7a4_52 (by decide) h9a ⟨by decide, by decide⟩ (fun c_5 => ?_) (fun c_5 => ?_)
    · have hw := hw.1 c_5
      exact L62 x0 x1 hw H locs ls hP hD hS (lv_sub hl [0, 1] rfl)
    · have hw := hw.2 c_5
      obtain ⟨x1_6, hx1_6⟩ : ∃ y : Int, y = x1 + 4 := ⟨_, rfl⟩
      have hw := hw x1_6 hx1_6
      refine lv_iinc (v := hz_i x1_6) (lv' := [(1, .int (hz_i x1_6)), (0, .int (hz_i x0))]) hx hb dJ6_numberOfTrailingZeros_0f7a4_55 hl (k := 1) rfl (by rw [hx1_6]; exact hz_i_add _ _) (by decide) rfl (fun ls hl => ?_)
      refine lv_iload_n hx hb dJ6_numberOfTrailingZeros_0f7a4_58 rfl (lv_at hl 1 rfl) ?_
      refine lv_iconst (v := hz_i 4) hx hb dJ6_numberOfTrailingZeros_0f7a4_59 (by decide +kernel) ?_
      refine cw_iushr (P := 16) (d := 4) hx hb dJ6_numberOfTrailingZeros_0f7a4_60 (by decide +kernel) (by decide +kernel) (fun x9_7 hx9_7a hx9_7b => ?_)
      have hw := hw x9_7 hx9_7a hx9_7b
      refine lv_istore_n (lv' := [(0, .int (hz_i x9_7)), (1, .int (hz_i x1_6))]) hx hb dJ6_numberOfTrailingZeros_0f7a4_61 rfl hl (by decide) rfl (fun ls hl => ?_)
      exact L62 x9_7 x1_6 hw H locs ls hP hD hS (lv_sub hl [0, 1] rfl)
  have L34 : ∀ (x0 : Int) (x1 : Int), wp_cj6_34 L K z r A x0 x1  Q → ∀ (H : Heap) (locs : List Loc) (ls : Array Slot), va_P D vwCl (cw_w C L K z r A) H → va_D Ad (cw_w C L K z r A) → va_S Ad s.heap H locs → lv_has ls 2 [(0, .int (hz_i x0)), (1, .int (hz_i x1))] → W p l e (headSpec wsJ6_numberOfTrailingZeros_0f7a4 ({ frames := 0, cells := 0, slots := 0, locals := 0 } : Room)).room s m (List.toArray [.int (hz_i y0)]) below meth c H locs 0 0 QQ (F0 m 34 ls []) := by
    intro x0 x1 hw H locs ls hP hD hS hl
    refine lv_iload_n hx hb dJ6_numberOfTrailingZeros_0f7a4_34 rfl (lv_at hl 0 rfl) ?_
    refine lv_sipush (v := hz_i 256) hx hb dJ6_numberOfTrailingZeros_0f7a4_35 (by decide +kernel) ?_
    obtain ⟨h9a, hw⟩ := hw
    refine hz_icmp_le (tgt := 49) hx hb dJ6_numberOfTrailingZeros_0f7a4_38 (by decide) h9a ⟨by decide, by decide⟩ (fun c_8 => ?_) (fun c_8 => ?_)
    · have hw := hw.1 c_8
      exact L49 x0 x1 hw H locs ls hP hD hS (lv_sub hl [0, 1] rfl)
    · have hw := hw.2 c_8
      obtain ⟨x1_9, hx1_9⟩ : ∃ y : Int, y = x1 + 8 := ⟨_, rfl⟩
      have hw := hw x1_9 hx1_9
      refine lv_iinc (v := hz_i x1_9) (lv' := [(1, .int (hz_i x1_9)), (0, .int (hz_i x0))]) hx hb dJ6_numberOfTrailingZeros_0f7a4_41 hl (k := 1) rfl (by rw [hx1_9]; exact hz_i_add _ _) (by decide) rfl (fun ls hl => ?_)
      refine lv_iload_n hx hb dJ6_numberOfTrailingZeros_0f7a4_44 rfl (lv_at hl 1 rfl) ?_
      refine lv_bipush (v := hz_i 8) hx hb dJ6_numberOfTrailingZeros_0f7a4_45 (by decide +kernel) ?_
      refine cw_iushr (P := 256) (d := 8) hx hb dJ6_numberOfTrailingZeros_0f7a4_47 (by decide +kernel) (by decide +kernel) (fun x9_10 hx9_10a hx9_10b => ?_)
      have hw := hw x9_10 hx9_10a hx9_10b
      refine lv_istore_n (lv' := [(0, .int (hz_i x9_10)), (1, .int (hz_i x1_9))]) hx hb dJ6_numberOfTrailingZeros_0f7a4_48 rfl hl (by decide) rfl (fun ls hl => ?_)
      exact L49 x9_10 x1_9 hw H locs ls hP hD hS (lv_sub hl [0, 1] rfl)
  have hP := hP0; have hD := hD0; have hS := hS0; have hl := hl0; have hw := hw0
  obtain ⟨H, hH⟩ : ∃ H : Heap, H = s.heap := ⟨_, rfl⟩
  obtain ⟨locs, hlocs⟩ : ∃ L : List Loc, L = [] := ⟨_, rfl⟩
  rw [← hH] at hP
  have hS : va_S Ad s.heap H locs := by rw [hH, hlocs]; exact hS
  refine mw_HL hH hlocs ?_
  refine lv_iload_n hx hb dJ6_numberOfTrailingZeros_0f7a4_0 rfl (lv_at hl 0 rfl) ?_
  refine lv_iconst (v := hz_i (-1)) hx hb dJ6_numberOfTrailingZeros_0f7a4_1 (by decide +kernel) ?_
  refine cw_inot hx hb dJ6_numberOfTrailingZeros_0f7a4_2 ?_
  refine lv_iload_n hx hb dJ6_numberOfTrailingZeros_0f7a4_3 rfl (lv_at hl 0 rfl) ?_
  refine lv_iconst (v := hz_i 1) hx hb dJ6_numberOfTrailingZeros_0f7a4_4 (by decide +kernel) ?_
  refine hz_isub hx hb dJ6_numberOfTrailingZeros_0f7a4_5 ?_
  refine cw_iandx hx hb dJ6_numberOfTrailingZeros_0f7a4_6 (fun x9_11 hx9_11a hx9_11b => ?_)
  have hw := hw x9_11 hx9_11a hx9_11b
  refine lv_istore_n (lv' := [(0, .int (hz_i x9_11))]) hx hb dJ6_numberOfTrailingZeros_0f7a4_7 rfl hl (by decide) rfl (fun ls hl => ?_)
  refine lv_iload_n hx hb dJ6_numberOfTrailingZeros_0f7a4_8 rfl (lv_at hl 0 rfl) ?_
  obtain ⟨h9a, hw⟩ := hw
  refine hz_if_gt (tgt := 17) hx hb dJ6_numberOfTrailingZeros_0f7a4_9 (by decide) h9a (fun c_12 => ?_) (fun c_12 => ?_)
  · have hw := hw.1 c_12
    refine lv_iconst (v := hz_i 1) hx hb dJ6_numberOfTrailingZeros_0f7a4_17 (by decide +kernel) ?_
    refine lv_istore_n (lv' := [(1, .int (hz_i 1)), (0, .int (hz_i x9_11))]) hx hb dJ6_numberOfTrailingZeros_0f7a4_18 rfl hl (by decide) rfl (fun ls hl => ?_)
    refine lv_iload_n hx hb dJ6_numberOfTrailingZeros_0f7a4_19 rfl (lv_at hl 1 rfl) ?_
    refine lv_ldcw hx hb hown (hts (.constant RJ6 264 (65536)) (List.mem_cons_of_mem _ (List.mem_of_getElem? (i := 0) rfl))) dJ6_numberOfTrailingZeros_0f7a4_20 ?_
    refine hz_asi (b := 65536) (by decide +kernel) ?_
    obtain ⟨h9a, hw⟩ := hw
    refine hz_icmp_le (tgt := 34) hx hb dJ6_numberOfTrailingZeros_0f7a4_23 (by decide) h9a ⟨by decide, by decide⟩ (fun c_13 => ?_) (fun c_13 => ?_)
    · have hw := hw.1 c_13
      exact L34 x9_11 1 hw H locs ls hP hD hS (lv_sub hl [1, 0] rfl)
    · have hw := hw.2 c_13
      obtain ⟨x1_14, hx1_14⟩ : ∃ y : Int, y = 1 + 16 := ⟨_, rfl⟩
      have hw := hw x1_14 hx1_14
      refine lv_iinc (v := hz_i x1_14) (lv' := [(1, .int (hz_i x1_14)), (0, .int (hz_i x9_11))]) hx hb dJ6_numberOfTrailingZeros_0f7a4_26 hl (k := 0) rfl (by rw [hx1_14]; exact hz_i_add _ _) (by decide) rfl (fun ls hl => ?_)
      refine lv_iload_n hx hb dJ6_numberOfTrailingZeros_0f7a4_29 rfl (lv_at hl 1 rfl) ?_
      refine lv_bipush (v := hz_i 16) hx hb dJ6_numberOfTrailingZeros_0f7a4_30 (by decide +kernel) ?_
      refine cw_iushr (P := 65536) (d := 16) hx hb dJ6_numberOfTrailingZeros_0f7a4_32 (by decide +kernel) (by decide +kernel) (fun x9_15 hx9_15a hx9_15b => ?_)
      have hw := hw x9_15 hx9_15a hx9_15b
      refine lv_istore_n (lv' := [(0, .int (hz_i x9_15)), (1, .int (hz_i x1_14))]) hx hb dJ6_numberOfTrailingZeros_0f7a4_33 rfl hl (by decide) rfl (fun ls hl => ?_)
      exact L34 x9_15 x1_14 hw H locs ls hP hD hS (lv_sub hl [0, 1] rfl)
  · have hw := hw.2 c_12
    refine lv_iload_n hx hb dJ6_numberOfTrailingZeros_0f7a4_12 rfl (lv_at hl 0 rfl) ?_
    refine lv_bipush (v := hz_i 32) hx hb dJ6_numberOfTrailingZeros_0f7a4_13 (by decide +kernel) ?_
    refine cw_iandx hx hb dJ6_numberOfTrailingZeros_0f7a4_15 (fun x9_16 hx9_16a hx9_16b => ?_)
    have hw := hw x9_16 hx9_16a hx9_16b
    subst hQQ
    subst hAe
    exact W.iret (v := hz_i x9_16) hx hb hr (fun t ht hW => ⟨⟨hz_i x9_16, (x9_16, z, r, A), rfl, ⟨rfl, hw⟩, by rw [ht]; exact hP, va_K.moved hW.alike hK, hD⟩, hS.F ht⟩) hS.2.2 dJ6_numberOfTrailingZeros_0f7a4_16

noncomputable def wp_c0_addMultiple_103 (L : List Nat) (K : Nat → cw_K) (z : Nat → Nat → Int) (r : Nat → Nat → Nat) (A : Nat → Nat → Int) (Q : (Nat → Nat → Int) → Prop) : Prop := Q A
noncomputable def wp_c0_addMultiple_21 (L : List Nat) (K : Nat → cw_K) (z : Nat → Nat → Int) (r : Nat → Nat → Nat) (A : Nat → Nat → Int) (y0 : Nat) (y1 : Nat) (y2 : Int) (y4 : Int) (y5 : Int) (x6 : Int) (x7 : Int) (x9 : Int) (Q : (Nat → Nat → Int) → Prop) : Prop := ∀ P21 : (Nat → Nat → Int) → Int → Int → Prop, (∀ (A : Nat → Nat → Int) (x7 : Int) (x9 : Int), hz_rI x9 ∧ hz_rI x6 ∧ ((x6 ≤ x9 → hz_rI x6 ∧ hz_rI y5 ∧ ((y5 ≤ x6 → wp_c0_addMultiple_103 L K z r A  Q) ∧ (¬ (y5 ≤ x6) → cw_O L K 0 y0 ∧ ∀ x9_4 : Int, hz_rI x9_4 → x9_4 % 4294967296 = x7 % 4294967296 → cw_A L K 0 (r y0 0) ∧ ((0 : Int) ≤ x6 ∧ x6 < (cw_n K (r y0 0) : Int)) ∧ ∀ A_6 : Nat → Nat → Int, A_6 = hz_s A (r y0 0) x6 x9_4 → wp_c0_addMultiple_103 L K z r A_6  Q))) ∧ (¬ (x6 ≤ x9) → cw_O L K 0 y1 ∧ cw_A L K 0 (r y1 0) ∧ ((0 : Int) ≤ x9 - y4 ∧ x9 - y4 < (cw_n K (r y1 0) : Int)) ∧ hz_rI (A (r y1 0) ((x9 - y4).toNat)) ∧ ∀ x9_9 : Int, x9_9 = (A (r y1 0) ((x9 - y4).toNat)) % 4294967296 → cw_O L K 0 y0 ∧ cw_A L K 0 (r y0 0) ∧ ((0 : Int) ≤ x9 ∧ x9 < (cw_n K (r y0 0) : Int)) ∧ hz_rI (A (r y0 0) (x9.toNat)) ∧ ∀ x9_12 : Int, x9_12 = (A (r y0 0) (x9.toNat)) % 4294967296 → ∀ x7_13 : Int, x7_13 = x7 + ((y2 * x9_9) + x9_12) → ∀ x9_14 : Int, hz_rI x9_14 → x9_14 % 4294967296 = x7_13 % 4294967296 → ((0 : Int) ≤ x9 ∧ x9 < (cw_n K (r y0 0) : Int)) ∧ ∀ A_15 : Nat → Nat → Int, A_15 = hz_s A (r y0 0) x9 x9_14 → ∀ x9_16 : Int, x9_16 = x7_13 % 18446744073709551616 / 4294967296 → ∀ x9_17 : Int, x9_17 = x9 + 1 → P21 A_15 x9_16 x9_17)) → P21 A x7 x9) → P21 A x7 x9
noncomputable def wp_c0_addMultiple (L : List Nat) (K : Nat → cw_K) (z : Nat → Nat → Int) (r : Nat → Nat → Nat) (A : Nat → Nat → Int) (y0 : Nat) (y1 : Nat) (y2 : Int) (y4 : Int) (y5 : Int) (Q : (Nat → Nat → Int) → Prop) : Prop := cw_O L K 0 y1 ∧ hz_rI (y4 + (z y1 1)) ∧ hz_rI y5 ∧ ∀ x9_19 : Int, x9_19 = min (y4 + (z y1 1)) y5 → wp_c0_addMultiple_21 L K z r A y0 y1 y2 y4 y5 x9_19 0 y4  Q
set_option maxHeartbeats 4000000 in
set_option maxRecDepth 100000 in
theorem k_c0_addMultiple (l : Launch) (D : va_G) (sz : Nat) (C : Nat → ClassId) (L : List Nat) (K : Nat → cw_K) (z : Nat → Nat → Int) (r : Nat → Nat → Nat) (A : Nat → Nat → Int) (y0 : Nat) (y1 : Nat) (y2 : Int) (y4 : Int) (y5 : Int) (Q : (Nat → Nat → Int) → Prop) (hw : wp_c0_addMultiple L K z r A y0 y1 y2 y4 y5 Q) : Met l yX0_addMultiple wsX0_addMultiple ({ frames := 1, cells := 0, slots := 0, locals := 20 } : Room) (va_Pc [.ref y0, .ref y1, .long (hz_l y2), .int (hz_i y4), .int (hz_i y5)] (hm_P D (cw_w C L K z r A) (cw_t C) sz)) (va_Qv (S := Int × (Nat → Nat → Int) × (Nat → Nat → Nat) × (Nat → Nat → Int)) (fun u => Q u.2.2.2) (fun u t => hm_B D (va_A (cw_w C L K z r A) sz) (cw_w C L K z r u.2.2.2) (cw_t C) t) (va_A (cw_w C L K z r A) sz)) 0 0 (va_A (cw_w C L K z r A) sz) := by
  refine Met.ofW (cc := cX0_addMultiple) (maxL := 10) (ret := none) (by decide) rfl ?_
  intro p e s m args below meth c s₁ B hml hv
  obtain ⟨rfl, hsz, hP, hK, hD0, hE⟩ := hv
  have hx := B.exec
  have hb := B.bytes
  have hr := B.returns
  have hts := atoms_spec (ws := wsX0_addMultiple) B.pre
  have hown : s.vm.findClass RX0 = some m.cls := findClass_of_methodNamed B.named
  have hlocks := B.notSynchronized
  have hin0 : ∀ w ∈ u_ws RX0 TX0 3, w ∈ wsX0_addMultiple := fun w h => List.mem_cons_of_mem _ (List.mem_append_right _ (h))
  subst hsz
  have hD := hD0.self (sz := s.heap.size)
  generalize hAe : va_A (cw_w C L K z r A) s.heap.size = Ad at hD ⊢
  have hA : ∀ q : Nat, s.heap.size ≤ q → Ad q := fun q h => by rw [← hAe]; exact Or.inr h
  have hS : va_S Ad s.heap s.heap [] := va_S.rf
  have hl := lv_entry ([.ref y0, .ref y1, .long (hz_l y2), .int (hz_i y4), .int (hz_i y5)]) (n := 10) (Nat.le_of_ble_eq_true rfl)
  rw [lg_entry_eq]
  generalize (lg_sl ([.ref y0, .ref y1, .long (hz_l y2), .int (hz_i y4), .int (hz_i y5)]) ++ List.replicate (10 - (lg_sl ([.ref y0, .ref y1, .long (hz_l y2), .int (hz_i y4), .int (hz_i y5)])).length) Slot.unset).toArray = ls at hl ⊢
  have hl : lv_has ls 10 [(0, .ref y0), (1, .ref y1), (2, .long (hz_l y2)), (4, .int (hz_i y4)), (5, .int (hz_i y5))] := hl
  refine mw_Q (fun QQ hQQ => ?_)
  have hP0 := hP; have hD0 := hD; have hS0 := hS; have hl0 := hl; have hw0 := hw
  clear hP hD hS hl hw
  have L103 : ∀ (A : Nat → Nat → Int), wp_c0_addMultiple_103 L K z r A  Q → ∀ (H : Heap) (locs : List Loc) (ls : Array Slot), va_P D vwCl (cw_w C L K z r A) H → va_D Ad (cw_w C L K z r A) → va_S Ad s.heap H locs → lv_has ls 10 [] → W p l e (headSpec wsX0_addMultiple ({ frames := 1, cells := 0, slots := 0, locals := 20 } : Room)).room s m (List.toArray [.ref y0, .ref y1, .long (hz_l y2), .int (hz_i y4), .int (hz_i y5)]) below meth c H locs 0 0 QQ (F0 m 103 ls []) := by
    intro A hw H locs ls hP hD hS hl
    subst hQQ
    subst hAe
    exact W.vret hx hb hr (fun t ht hW => ⟨⟨(0, z, r, A), rfl, hw, by rw [ht]; exact hP, va_K.moved hW.alike hK, hD⟩, hS.F ht⟩) hS.2.2 dX0_addMultiple_103
  have L21 : ∀ (A : Nat → Nat → Int) (x6 : Int) (x7 : Int) (x9 : Int), wp_c0_addMultiple_21 L K z r A y0 y1 y2 y4 y5 x6 x7 x9  Q → ∀ (H : Heap) (locs : List Loc) (ls : Array Slot), va_P D vwCl (cw_w C L K z r A) H → va_D Ad (cw_w C L K z r A) → va_S Ad s.heap H locs → lv_has ls 10 [(0, .ref y0), (1, .ref y1), (2, .long (hz_l y2)), (4, .int (hz_i y4)), (5, .int (hz_i y5)), (6, .int (hz_i x6)), (7, .long (hz_l x7)), (9, .int (hz_i x9))] → W p l e (headSpec wsX0_addMultiple ({ frames := 1, cells := 0, slots := 0, locals := 20 } : Room)).room s m (List.toArray [.ref y0, .ref y1, .long (hz_l y2), .int (hz_i y4), .int (hz_i y5)]) below meth c H locs 0 0 QQ (F0 m 21 ls []) := by
    intro A x6 x7 x9 hw
    obtain ⟨P21, hP21⟩ : ∃ P : (Nat → Nat → Int) → Int → Int → Prop, ∀ (A : Nat → Nat → Int) (x7 : Int) (x9 : Int), P A x7 x9 ↔ (∀ (H : Heap) (locs : List Loc) (ls : Array Slot), va_P D vwCl (cw_w C L K z r A) H → va_D Ad (cw_w C L K z r A) → va_S Ad s.heap H locs → lv_has ls 10 [(0, .ref y0), (1, .ref y1), (2, .long (hz_l y2)), (4, .int (hz_i y4)), (5, .int (hz_i y5)), (6, .int (hz_i x6)), (7, .long (hz_l x7)), (9, .int (hz_i x9))] → W p l e (headSpec wsX0_addMultiple ({ frames := 1, cells := 0, slots := 0, locals := 20 } : Room)).room s m (List.toArray [.ref y0, .ref y1, .long (hz_l y2), .int (hz_i y4), .int (hz_i y5)]) below meth c H locs 0 0 QQ (F0 m 21 ls [])) := ⟨fun (A : Nat → Nat → Int) (x7 : Int) (x9 : Int) => ∀ (H : Heap) (locs : List Loc) (ls : Array Slot), va_P D vwCl (cw_w C L K z r A) H → va_D Ad (cw_w C L K z r A) → va_S Ad s.heap H locs → lv_has ls 10 [(0, .ref y0), (1, .ref y1), (2, .long (hz_l y2)), (4, .int (hz_i y4)), (5, .int (hz_i y5)), (6, .int (hz_i x6)), (7, .long (hz_l x7)), (9, .int (hz_i x9))] → W p l e (headSpec wsX0_addMultiple ({ frames := 1, cells := 0, slots := 0, locals := 20 } : Room)).room s m (List.toArray [.ref y0, .ref y1, .long (hz_l y2), .int (hz_i y4), .int (hz_i y5)]) below meth c H locs 0 0 QQ (F0 m 21 ls []), fun _ _ _ => Iff.rfl⟩
    refine (hP21 A x7 x9).mp (hw P21 ?_)
    intro A x7 x9 hw
    refine (hP21 A x7 x9).mpr ?_
    intro H locs ls hP hD hS hl
    refine lv_iload hx hb dX0_addMultiple_21 (lv_at hl 7 rfl) ?_
    refine lv_iload hx hb dX0_addMultiple_23 (lv_at hl 5 rfl) ?_
    obtain ⟨h9a, hw⟩ := hw
    obtain ⟨h9b, hw⟩ := hw
    refine hz_icmp_ge (tgt := 86) hx hb dX0_addMultiple_25 (by decide) h9a h9b (fun c_1 => ?_) (fun c_1 => ?_)
    · have hw := hw.1 c_1
      refine lv_iload hx hb dX0_addMultiple_86 (lv_at hl 5 rfl) ?_
      refine lv_iload hx hb dX0_addMultiple_88 (lv_at hl 4 rfl) ?_
      obtain ⟨h9a, hw⟩ := hw
      obtain ⟨h9b, hw⟩ := hw
      refine hz_icmp_ge (tgt := 103) hx hb dX0_addMultiple_90 (by decide) h9a h9b (fun c_2 => ?_) (fun c_2 => ?_)
      · have hw := hw.1 c_2
        exact L103 A hw H locs ls hP hD hS (lv_sub hl [] rfl)
      · have hw := hw.2 c_2
        refine lv_aload_n hx hb dX0_addMultiple_93 rfl (lv_at hl 0 rfl) ?_
        obtain ⟨hO_3, hw⟩ := hw
        refine cw_get (ci := 0) (v := .ref (r y0 0)) hx hb hts hin0 hown hK hP hO_3.1 hO_3.2 rfl 0 (by decide) (hts (.fieldLink RX0 17 "HiddenMoves$Big" "digits" "[I") (List.mem_cons_of_mem _ (List.mem_append_left _ (List.mem_of_getElem? (i := 5) rfl)))) (fun _ h9 => h9) rfl dX0_addMultiple_94 ?_
        refine lv_iload hx hb dX0_addMultiple_97 (lv_at hl 5 rfl) ?_
        refine lv_lload hx hb dX0_addMultiple_99 (lv_at hl 6 rfl) ?_
        refine cw_l2i hx hb dX0_addMultiple_101 (fun x9_4 hx9_4a hx9_4b => ?_)
        have hw := hw x9_4 hx9_4a hx9_4b
        obtain ⟨hO_5, hw⟩ := hw
        obtain ⟨h9i, hw⟩ := hw
        refine cw_ist (v := x9_4) hx hb hK hP hD hS hO_5.1 hO_5.2.2 h9i hO_5.2.1 dX0_addMultiple_102 (fun H locs hP hD hS => ?_)
        obtain ⟨A_6, hA_6⟩ : ∃ y : Nat → Nat → Int, y = hz_s A (r y0 0) x6 x9_4 := ⟨_, rfl⟩
        rw [← hA_6] at hP hD
        have hw := hw A_6 hA_6
        exact L103 A_6 hw H locs ls hP hD hS (lv_sub hl [] rfl)
    · have hw := hw.2 c_1
      refine lv_lload hx hb dX0_addMultiple_28 (lv_at hl 6 rfl) ?_
      refine lv_lload_n hx hb dX0_addMultiple_30 rfl (lv_at hl 2 rfl) ?_
      refine lv_aload_n hx hb dX0_addMultiple_31 rfl (lv_at hl 1 rfl) ?_
      obtain ⟨hO_7, hw⟩ := hw
      refine cw_get (ci := 0) (v := .ref (r y1 0)) hx hb hts hin0 hown hK hP hO_7.1 hO_7.2 rfl 0 (by decide) (hts (.fieldLink RX0 17 "HiddenMoves$Big" "digits" "[I") (List.mem_cons_of_mem _ (List.mem_append_left _ (List.mem_of_getElem? (i := 5) rfl)))) (fun _ h9 => h9) rfl dX0_addMultiple_32 ?_
      refine lv_iload hx hb dX0_addMultiple_35 (lv_at hl 7 rfl) ?_
      refine lv_iload hx hb dX0_addMultiple_37 (lv_at hl 3 rfl) ?_
      refine hz_isub hx hb dX0_addMultiple_39 ?_
      obtain ⟨hO_8, hw⟩ := hw
      obtain ⟨h9i, hw⟩ := hw
      refine cw_ild hx hb hK hP hO_8.1 hO_8.2.2 h9i hO_8.2.1 dX0_addMultiple_40 ?_
      obtain ⟨h9a, hw⟩ := hw
      refine hz_wi2l hx hb dX0_addMultiple_41 h9a ?_
      refine lv_ldc2 hx hb hown (hts (.constantLong RX0 33 (4294967295)) (List.mem_cons_of_mem _ (List.mem_append_left _ (List.mem_of_getElem? (i := 6) rfl)))) dX0_addMultiple_42 ?_
      refine hz_asl (b := 4294967295) (by decide +kernel) ?_
      refine cw_land (P := 4294967296) hx hb 32 dX0_addMultiple_45 (by decide) (by decide +kernel) (by decide +kernel) (fun x9_9 hx9_9a => ?_)
      have hw := hw x9_9 hx9_9a
      refine hz_lmul hx hb dX0_addMultiple_46 ?_
      refine lv_aload_n hx hb dX0_addMultiple_47 rfl (lv_at hl 0 rfl) ?_
      obtain ⟨hO_10, hw⟩ := hw
      refine cw_get (ci := 0) (v := .ref (r y0 0)) hx hb hts hin0 hown hK hP hO_10.1 hO_10.2 rfl 0 (by decide) (hts (.fieldLink RX0 17 "HiddenMoves$Big" "digits" "[I") (List.mem_cons_of_mem _ (List.mem_append_left _ (List.mem_of_getElem? (i := 5) rfl)))) (fun _ h9 => h9) rfl dX0_addMultiple_48 ?_
      refine lv_iload hx hb dX0_addMultiple_51 (lv_at hl 7 rfl) ?_
      obtain ⟨hO_11, hw⟩ := hw
      obtain ⟨h9i, hw⟩ := hw
      refine cw_ild hx hb hK hP hO_11.1 hO_11.2.2 h9i hO_11.2.1 dX0_addMultiple_53 ?_
      obtain ⟨h9a, hw⟩ := hw
      refine hz_wi2l hx hb dX0_addMultiple_54 h9a ?_
      refine lv_ldc2 hx hb hown (hts (.constantLong RX0 33 (4294967295)) (List.mem_cons_of_mem _ (List.mem_append_left _ (List.mem_of_getElem? (i := 6) rfl)))) dX0_addMultiple_55 ?_
      refine hz_asl (b := 4294967295) (by decide +kernel) ?_
      refine cw_land (P := 4294967296) hx hb 32 dX0_addMultiple_58 (by decide) (by decide +kernel) (by decide +kernel) (fun x9_12 hx9_12a => ?_)
      have hw := hw x9_12 hx9_12a
      refine hz_ladd hx hb dX0_addMultiple_59 ?_
      refine hz_ladd hx hb dX0_addMultiple_60 ?_
      refine hz_topl (fun x7_13 hx7_13 => ?_)
      have hw := hw x7_13 hx7_13
      refine lv_lstore (lv' := [(7, .long (hz_l x7_13)), (0, .ref y0), (1, .ref y1), (2, .long (hz_l y2)), (4, .int (hz_i y4)), (5, .int (hz_i y5)), (6, .int (hz_i x6)), (9, .int (hz_i x9))]) hx hb dX0_addMultiple_61 hl (by decide) rfl (fun ls hl => ?_)
      refine lv_aload_n hx hb dX0_addMultiple_63 rfl (lv_at hl 1 rfl) ?_
      refine cw_get (ci := 0) (v := .ref (r y0 0)) hx hb hts hin0 hown hK hP hO_10.1 hO_10.2 rfl 0 (by decide) (hts (.fieldLink RX0 17 "HiddenMoves$Big" "digits" "[I") (List.mem_cons_of_mem _ (List.mem_append_left _ (List.mem_of_getElem? (i := 5) rfl)))) (fun _ h9 => h9) rfl dX0_addMultiple_64 ?_
      refine lv_iload hx hb dX0_addMultiple_67 (lv_at hl 7 rfl) ?_
      refine lv_lload hx hb dX0_addMultiple_69 (lv_at hl 0 rfl) ?_
      refine cw_l2i hx hb dX0_addMultiple_71 (fun x9_14 hx9_14a hx9_14b => ?_)
      have hw := hw x9_14 hx9_14a hx9_14b
      obtain ⟨h9i, hw⟩ := hw
      refine cw_ist (v := x9_14) hx hb hK hP hD hS hO_11.1 hO_11.2.2 h9i hO_11.2.1 dX0_addMultiple_72 (fun H locs hP hD hS => ?_)
      obtain ⟨A_15, hA_15⟩ : ∃ y : Nat → Nat → Int, y = hz_s A (r y0 0) x9 x9_14 := ⟨_, rfl⟩
      rw [← hA_15] at hP hD
      have hw := hw A_15 hA_15
      refine lv_lload hx hb dX0_addMultiple_73 (lv_at hl 0 rfl) ?_
      refine lv_bipush (v := hz_i 32) hx hb dX0_addMultiple_75 (by decide +kernel) ?_
      refine cw_lushr (P := 4294967296) (d := 32) hx hb dX0_addMultiple_77 (by decide +kernel) (by decide +kernel) (by decide +kernel) (fun x9_16 hx9_16a => ?_)
      have hw := hw x9_16 hx9_16a
      refine lv_lstore (lv' := [(7, .long (hz_l x9_16)), (0, .ref y0), (1, .ref y1), (2, .long (hz_l y2)), (4, .int (hz_i y4)), (5, .int (hz_i y5)), (6, .int (hz_i x6)), (9, .int (hz_i x9))]) hx hb dX0_addMultiple_78 hl (by decide) rfl (fun ls hl => ?_)
      obtain ⟨x9_17, hx9_17⟩ : ∃ y : Int, y = x9 + 1 := ⟨_, rfl⟩
      have hw := hw x9_17 hx9_17
      refine lv_iinc (v := hz_i x9_17) (lv' := [(9, .int (hz_i x9_17)), (7, .long (hz_l x9_16)), (0, .ref y0), (1, .ref y1), (2, .long (hz_l y2)), (4, .int (hz_i y4)), (5, .int (hz_i y5)), (6, .int (hz_i x6))]) hx hb dX0_addMultiple_80 hl (k := 7) rfl (by rw [hx9_17]; exact hz_i_add _ _) (by decide) rfl (fun ls hl => ?_)
      refine lv_goto (tgt := 21) hx hb dX0_addMultiple_83 (by decide) ?_
      exact (hP21 A_15 x9_16 x9_17).mp hw H locs ls hP hD hS (lv_sub hl [2, 3, 4, 5, 6, 7, 1, 0] rfl)
  have hP := hP0; have hD := hD0; have hS := hS0; have hl := hl0; have hw := hw0
  obtain ⟨H, hH⟩ : ∃ H : Heap, H = s.heap := ⟨_, rfl⟩
  obtain ⟨locs, hlocs⟩ : ∃ L : List Loc, L = [] := ⟨_, rfl⟩
  rw [← hH] at hP
  have hS : va_S Ad s.heap H locs := by rw [hH, hlocs]; exact hS
  refine mw_HL hH hlocs ?_
  refine lv_iload hx hb dX0_addMultiple_0 (lv_at hl 3 rfl) ?_
  refine lv_aload_n hx hb dX0_addMultiple_2 rfl (lv_at hl 1 rfl) ?_
  obtain ⟨hO_18, hw⟩ := hw
  refine cw_get (ci := 0) (v := .int (hz_i (z y1 1))) hx hb hts hin0 hown hK hP hO_18.1 hO_18.2 rfl 1 (by decide) (hts (.fieldLink RX0 7 "HiddenMoves$Big" "length" "I") (List.mem_cons_of_mem _ (List.mem_append_left _ (List.mem_of_getElem? (i := 0) rfl)))) (fun _ h9 => h9) rfl dX0_addMultiple_3 ?_
  refine hz_iadd hx hb dX0_addMultiple_6 ?_
  refine lv_iload hx hb dX0_addMultiple_7 (lv_at hl 4 rfl) ?_
  obtain ⟨h9a, hw⟩ := hw
  obtain ⟨h9b, hw⟩ := hw
  refine cw_mmin (x := y4 + (z y1 1)) (y := y5) hx hb (by rw [hml]; exact hl.1.symm) hown (hts (.methodLink RX0 21 Lib.Math.min.name) (List.mem_cons_of_mem _ (List.mem_append_left _ (List.mem_of_getElem? (i := 1) rfl)))) (hts (.static Lib.Math.min.name) (List.mem_cons_of_mem _ (List.mem_append_left _ (List.mem_of_getElem? (i := 2) rfl)))) (hts (.initialized "java/lang/Math") (List.mem_cons_of_mem _ (List.mem_append_left _ (List.mem_of_getElem? (i := 3) rfl)))) (hts (.code Lib.Math.min.name Lib.Math.min.code 2 (some .int)) (List.mem_cons_of_mem _ (List.mem_append_left _ (List.mem_of_getElem? (i := 4) rfl)))) (Nat.le_of_ble_eq_true rfl) (Nat.le_of_ble_eq_true rfl) (Nat.zero_le _) (Nat.zero_le _) dX0_addMultiple_9 h9a h9b (fun x9_19 hx9_19 => ?_)
  have hw := hw x9_19 hx9_19
  refine lv_istore (lv' := [(6, .int (hz_i x9_19)), (0, .ref y0), (1, .ref y1), (2, .long (hz_l y2)), (4, .int (hz_i y4)), (5, .int (hz_i y5))]) hx hb dX0_addMultiple_12 hl (by decide) rfl (fun ls hl => ?_)
  refine lv_lconst (v := hz_l 0) hx hb dX0_addMultiple_14 (by decide +kernel) ?_
  refine lv_lstore (lv' := [(7, .long (hz_l 0)), (6, .int (hz_i x9_19)), (0, .ref y0), (1, .ref y1), (2, .long (hz_l y2)), (4, .int (hz_i y4)), (5, .int (hz_i y5))]) hx hb dX0_addMultiple_15 hl (by decide) rfl (fun ls hl => ?_)
  refine lv_iload hx hb dX0_addMultiple_17 (lv_at hl 5 rfl) ?_
  refine lv_istore (lv' := [(9, .int (hz_i y4)), (7, .long (hz_l 0)), (6, .int (hz_i x9_19)), (0, .ref y0), (1, .ref y1), (2, .long (hz_l y2)), (4, .int (hz_i y4)), (5, .int (hz_i y5))]) hx hb dX0_addMultiple_19 hl (by decide) rfl (fun ls hl => ?_)
  exact L21 A x9_19 0 y4 hw H locs ls hP hD hS (lv_sub hl [3, 4, 5, 6, 7, 2, 1, 0] rfl)

noncomputable def wp_c0_copy (L : List Nat) (K : Nat → cw_K) (z : Nat → Nat → Int) (r : Nat → Nat → Nat) (A : Nat → Nat → Int) (y0 : Nat) (y1 : Nat) (Q : (Nat → Nat → Int) → (Nat → Nat → Int) → Prop) : Prop := cw_O L K 0 y1 ∧ cw_O L K 0 y0 ∧ cw_A L K 0 (r y0 0) ∧ hz_rI (z y1 1) ∧ hz_rI (cw_n K (r y0 0) : Int) ∧ ∀ x9_4 : Int, x9_4 = min (z y1 1) (cw_n K (r y0 0) : Int) → ∀ z_5 : Nat → Nat → Int, z_5 = cw_s z y0 1 x9_4 → cw_A L K 0 (r y1 0) ∧ ((0 : Int) ≤ z_5 y0 1 ∧ z_5 y0 1 ≤ (cw_n K (r y1 0) : Int) ∧ z_5 y0 1 ≤ (cw_n K (r y0 0) : Int)) ∧ ∀ A_7 : Nat → Nat → Int, A_7 = cw_cp A (r y1 0) (r y0 0) (z_5 y0 1) → (z_5 y1 2 = 0 ∨ z_5 y1 2 = 1) ∧ ∀ z_8 : Nat → Nat → Int, z_8 = cw_s z_5 y0 2 (z_5 y1 2) → Q z_8 A_7
set_option maxHeartbeats 4000000 in
set_option maxRecDepth 100000 in
theorem k_c0_copy (l : Launch) (D : va_G) (sz : Nat) (C : Nat → ClassId) (L : List Nat) (K : Nat → cw_K) (z : Nat → Nat → Int) (r : Nat → Nat → Nat) (A : Nat → Nat → Int) (y0 : Nat) (y1 : Nat) (Q : (Nat → Nat → Int) → (Nat → Nat → Int) → Prop) (hw : wp_c0_copy L K z r A y0 y1 Q) : Met l yX0_copy wsX0_copy ({ frames := 1, cells := 0, slots := 0, locals := 30 } : Room) (va_Pc [.ref y0, .ref y1] (hm_P D (cw_w C L K z r A) (cw_t C) sz)) (va_Qv (S := Int × (Nat → Nat → Int) × (Nat → Nat → Nat) × (Nat → Nat → Int)) (fun u => Q u.2.1 u.2.2.2) (fun u t => hm_B D (va_A (cw_w C L K z r A) sz) (cw_w C L K u.2.1 r u.2.2.2) (cw_t C) t) (va_A (cw_w C L K z r A) sz)) 0 0 (va_A (cw_w C L K z r A) sz) := by
  refine Met.ofW (cc := cX0_copy) (maxL := 2) (ret := none) (by decide) rfl ?_
  intro p e s m args below meth c s₁ B hml hv
  obtain ⟨rfl, hsz, hP, hK, hD0, hE⟩ := hv
  have hx := B.exec
  have hb := B.bytes
  have hr := B.returns
  have hts := atoms_spec (ws := wsX0_copy) B.pre
  have hown : s.vm.findClass RX0 = some m.cls := findClass_of_methodNamed B.named
  have hlocks := B.notSynchronized
  have hin0 : ∀ w ∈ u_ws RX0 TX0 3, w ∈ wsX0_copy := fun w h => List.mem_cons_of_mem _ (List.mem_append_right _ (h))
  subst hsz
  have hD := hD0.self (sz := s.heap.size)
  generalize hAe : va_A (cw_w C L K z r A) s.heap.size = Ad at hD ⊢
  have hA : ∀ q : Nat, s.heap.size ≤ q → Ad q := fun q h => by rw [← hAe]; exact Or.inr h
  have hS : va_S Ad s.heap s.heap [] := va_S.rf
  have hl := lv_entry ([.ref y0, .ref y1]) (n := 2) (Nat.le_of_ble_eq_true rfl)
  rw [lg_entry_eq]
  generalize (lg_sl ([.ref y0, .ref y1]) ++ List.replicate (2 - (lg_sl ([.ref y0, .ref y1])).length) Slot.unset).toArray = ls at hl ⊢
  have hl : lv_has ls 2 [(0, .ref y0), (1, .ref y1)] := hl
  refine mw_Q (fun QQ hQQ => ?_)
  have hP0 := hP; have hD0 := hD; have hS0 := hS; have hl0 := hl; have hw0 := hw
  clear hP hD hS hl hw
  have hP := hP0; have hD := hD0; have hS := hS0; have hl := hl0; have hw := hw0
  obtain ⟨H, hH⟩ : ∃ H : Heap, H = s.heap := ⟨_, rfl⟩
  obtain ⟨locs, hlocs⟩ : ∃ L : List Loc, L = [] := ⟨_, rfl⟩
  rw [← hH] at hP
  have hS : va_S Ad s.heap H locs := by rw [hH, hlocs]; exact hS
  refine mw_HL hH hlocs ?_
  refine lv_aload_n hx hb dX0_copy_0 rfl (lv_at hl 0 rfl) ?_
  refine lv_aload_n hx hb dX0_copy_1 rfl (lv_at hl 1 rfl) ?_
  obtain ⟨hO_1, hw⟩ := hw
  refine cw_get (ci := 0) (v := .int (hz_i (z y1 1))) hx hb hts hin0 hown hK hP hO_1.1 hO_1.2 rfl 1 (by decide) (hts (.fieldLink RX0 7 "HiddenMoves$Big" "length" "I") (List.mem_cons_of_mem _ (List.mem_append_left _ (List.mem_of_getElem? (i := 0) rfl)))) (fun _ h9 => h9) rfl dX0_copy_2 ?_
  refine lv_aload_n hx hb dX0_copy_5 rfl (lv_at hl 0 rfl) ?_
  obtain ⟨hO_2, hw⟩ := hw
  refine cw_get (ci := 0) (v := .ref (r y0 0)) hx hb hts hin0 hown hK hP hO_2.1 hO_2.2 rfl 0 (by decide) (hts (.fieldLink RX0 17 "HiddenMoves$Big" "digits" "[I") (List.mem_cons_of_mem _ (List.mem_append_left _ (List.mem_of_getElem? (i := 1) rfl)))) (fun _ h9 => h9) rfl dX0_copy_6 ?_
  obtain ⟨hO_3, hw⟩ := hw
  refine cw_len hx hb hK hP hO_3.1 hO_3.2.2 rfl dX0_copy_9 ?_
  obtain ⟨h9a, hw⟩ := hw
  obtain ⟨h9b, hw⟩ := hw
  refine cw_mmin (x := z y1 1) (y := (cw_n K (r y0 0) : Int)) hx hb (by rw [hml]; exact hl.1.symm) hown (hts (.methodLink RX0 21 Lib.Math.min.name) (List.mem_cons_of_mem _ (List.mem_append_left _ (List.mem_of_getElem? (i := 2) rfl)))) (hts (.static Lib.Math.min.name) (List.mem_cons_of_mem _ (List.mem_append_left _ (List.mem_of_getElem? (i := 3) rfl)))) (hts (.initialized "java/lang/Math") (List.mem_cons_of_mem _ (List.mem_append_left _ (List.mem_of_getElem? (i := 4) rfl)))) (hts (.code Lib.Math.min.name Lib.Math.min.code 2 (some .int)) (List.mem_cons_of_mem _ (List.mem_append_left _ (List.mem_of_getElem? (i := 5) rfl)))) (Nat.le_of_ble_eq_true rfl) (Nat.le_of_ble_eq_true rfl) (Nat.zero_le _) (Nat.zero_le _) dX0_copy_10 h9a h9b (fun x9_4 hx9_4 => ?_)
  have hw := hw x9_4 hx9_4
  refine cw_putz (ci := 0) (ty := .int) (v := .int (hz_i x9_4)) (x := x9_4) hx hb hts hin0 tyX0 tyX0_ok nmX0 hown hK hP hD hS hO_2.1 hO_2.2 rfl 1 (by decide) (hts (.fieldLink RX0 7 "HiddenMoves$Big" "length" "I") (List.mem_cons_of_mem _ (List.mem_append_left _ (List.mem_of_getElem? (i := 0) rfl)))) (fun _ h9 => h9) rfl (by decide +kernel) rfl rfl (Nat.le_of_ble_eq_true rfl) (cw_z0_1 _ _ _) dX0_copy_13 (fun H locs hP hD hS => ?_)
  obtain ⟨z_5, hz_5⟩ : ∃ y : Nat → Nat → Int, y = cw_s z y0 1 x9_4 := ⟨_, rfl⟩
  rw [← hz_5] at hP hD
  have hw := hw z_5 hz_5
  refine lv_aload_n hx hb dX0_copy_16 rfl (lv_at hl 1 rfl) ?_
  refine cw_get (ci := 0) (v := .ref (r y1 0)) hx hb hts hin0 hown hK hP hO_1.1 hO_1.2 rfl 0 (by decide) (hts (.fieldLink RX0 17 "HiddenMoves$Big" "digits" "[I") (List.mem_cons_of_mem _ (List.mem_append_left _ (List.mem_of_getElem? (i := 1) rfl)))) (fun _ h9 => h9) rfl dX0_copy_17 ?_
  refine lv_iconst (v := hz_i 0) hx hb dX0_copy_20 (by decide +kernel) ?_
  refine lv_aload_n hx hb dX0_copy_21 rfl (lv_at hl 0 rfl) ?_
  refine cw_get (ci := 0) (v := .ref (r y0 0)) hx hb hts hin0 hown hK hP hO_2.1 hO_2.2 rfl 0 (by decide) (hts (.fieldLink RX0 17 "HiddenMoves$Big" "digits" "[I") (List.mem_cons_of_mem _ (List.mem_append_left _ (List.mem_of_getElem? (i := 1) rfl)))) (fun _ h9 => h9) rfl dX0_copy_22 ?_
  refine lv_iconst (v := hz_i 0) hx hb dX0_copy_25 (by decide +kernel) ?_
  refine lv_aload_n hx hb dX0_copy_26 rfl (lv_at hl 0 rfl) ?_
  refine cw_get (ci := 0) (v := .int (hz_i (z_5 y0 1))) hx hb hts hin0 hown hK hP hO_2.1 hO_2.2 rfl 1 (by decide) (hts (.fieldLink RX0 7 "HiddenMoves$Big" "length" "I") (List.mem_cons_of_mem _ (List.mem_append_left _ (List.mem_of_getElem? (i := 0) rfl)))) (fun _ h9 => h9) rfl dX0_copy_27 ?_
  obtain ⟨hO_6, hw⟩ := hw
  obtain ⟨h9i, hw⟩ := hw
  refine cw_copy (n := z_5 y0 1) (rest := []) (own := RX0) (index := 27) hx hb (by rw [hml]; exact hl.1.symm) hown (hts (.methodLink RX0 27 arraycopyName) (List.mem_cons_of_mem _ (List.mem_append_left _ (List.mem_of_getElem? (i := 6) rfl)))) (hts (.native arraycopyName) (List.mem_cons_of_mem _ (List.mem_append_left _ (List.mem_of_getElem? (i := 7) rfl)))) (hts (.static arraycopyName) (List.mem_cons_of_mem _ (List.mem_append_left _ (List.mem_of_getElem? (i := 8) rfl)))) (hts (.initialized "java/lang/System") (List.mem_cons_of_mem _ (List.mem_append_left _ (List.mem_of_getElem? (i := 9) rfl)))) hK hP hD hS hO_6 hO_3 h9i (Nat.le_of_ble_eq_true rfl) (Nat.le_of_ble_eq_true rfl) dX0_copy_30 (fun H locs hP hD hS => ?_)
  obtain ⟨A_7, hA_7⟩ : ∃ y : Nat → Nat → Int, y = cw_cp A (r y1 0) (r y0 0) (z_5 y0 1) := ⟨_, rfl⟩
  rw [← hA_7] at hP hD
  have hw := hw A_7 hA_7
  refine lv_aload_n hx hb dX0_copy_33 rfl (lv_at hl 0 rfl) ?_
  refine lv_aload_n hx hb dX0_copy_34 rfl (lv_at hl 1 rfl) ?_
  refine cw_get (ci := 0) (v := .int (hz_i (z_5 y1 2))) hx hb hts hin0 hown hK hP hO_1.1 hO_1.2 rfl 2 (by decide) (hts (.fieldLink RX0 13 "HiddenMoves$Big" "below" "Z") (List.mem_cons_of_mem _ (List.mem_append_left _ (List.mem_of_getElem? (i := 10) rfl)))) (fun _ h9 => h9) rfl dX0_copy_35 ?_
  obtain ⟨h9z, hw⟩ := hw
  refine cw_putz (ci := 0) (ty := .boolean) (v := .int (hz_i (z_5 y1 2))) (x := z_5 y1 2) hx hb hts hin0 tyX0 tyX0_ok nmX0 hown hK hP hD hS hO_2.1 hO_2.2 rfl 2 (by decide) (hts (.fieldLink RX0 13 "HiddenMoves$Big" "below" "Z") (List.mem_cons_of_mem _ (List.mem_append_left _ (List.mem_of_getElem? (i := 10) rfl)))) (fun _ h9 => h9) rfl (by decide +kernel) (hz_tZ h9z) (hz_fZ h9z) (Nat.le_of_ble_eq_true rfl) (cw_z0_2 _ _ _) dX0_copy_38 (fun H locs hP hD hS => ?_)
  obtain ⟨z_8, hz_8⟩ : ∃ y : Nat → Nat → Int, y = cw_s z_5 y0 2 (z_5 y1 2) := ⟨_, rfl⟩
  rw [← hz_8] at hP hD
  have hw := hw z_8 hz_8
  subst hQQ
  subst hAe
  exact W.vret hx hb hr (fun t ht hW => ⟨⟨(0, z_8, r, A_7), rfl, hw, by rw [ht]; exact hP, va_K.moved hW.alike hK, hD⟩, hS.F ht⟩) hS.2.2 dX0_copy_41

noncomputable def wp_c0_digit_23 (L : List Nat) (K : Nat → cw_K) (z : Nat → Nat → Int) (r : Nat → Nat → Nat) (A : Nat → Nat → Int) (t0 : Int) (Q : Int → Prop) : Prop := Q t0
noncomputable def wp_c0_digit (L : List Nat) (K : Nat → cw_K) (z : Nat → Nat → Int) (r : Nat → Nat → Nat) (A : Nat → Nat → Int) (y0 : Nat) (y1 : Int) (Q : Int → Prop) : Prop := cw_O L K 0 y0 ∧ hz_rI y1 ∧ hz_rI (z y0 1) ∧ ((z y0 1 ≤ y1 → wp_c0_digit_23 L K z r A 0  Q) ∧ (¬ (z y0 1 ≤ y1) → cw_A L K 0 (r y0 0) ∧ ((0 : Int) ≤ y1 ∧ y1 < (cw_n K (r y0 0) : Int)) ∧ hz_rI (A (r y0 0) (y1.toNat)) ∧ ∀ x9_4 : Int, x9_4 = (A (r y0 0) (y1.toNat)) % 4294967296 → wp_c0_digit_23 L K z r A x9_4  Q))
set_option maxHeartbeats 4000000 in
set_option maxRecDepth 100000 in
theorem k_c0_digit (l : Launch) (D : va_G) (sz : Nat) (C : Nat → ClassId) (L : List Nat) (K : Nat → cw_K) (z : Nat → Nat → Int) (r : Nat → Nat → Nat) (A : Nat → Nat → Int) (y0 : Nat) (y1 : Int) (Q : Int → Prop) (hw : wp_c0_digit L K z r A y0 y1 Q) : Met l yX0_digit wsX0_digit ({ frames := 0, cells := 0, slots := 0, locals := 0 } : Room) (va_Pc [.ref y0, .int (hz_i y1)] (hm_P D (cw_w C L K z r A) (cw_t C) sz)) (va_Ql (S := Int × (Nat → Nat → Int) × (Nat → Nat → Nat) × (Nat → Nat → Int)) (fun r u => r = hz_l u.1 ∧ Q u.1) (fun u t => hm_B D (va_A (cw_w C L K z r A) sz) (cw_w C L K z r A) (cw_t C) t) (va_A (cw_w C L K z r A) sz)) 0 0 (va_A (cw_w C L K z r A) sz) := by
  refine Met.ofW (cc := cX0_digit) (maxL := 2) (ret := (some .long)) (by decide) rfl ?_
  intro p e s m args below meth c s₁ B hml hv
  obtain ⟨rfl, hsz, hP, hK, hD0, hE⟩ := hv
  have hx := B.exec
  have hb := B.bytes
  have hr := B.returns
  have hts := atoms_spec (ws := wsX0_digit) B.pre
  have hown : s.vm.findClass RX0 = some m.cls := findClass_of_methodNamed B.named
  have hlocks := B.notSynchronized
  have hin0 : ∀ w ∈ u_ws RX0 TX0 3, w ∈ wsX0_digit := fun w h => List.mem_cons_of_mem _ (List.mem_append_right _ (h))
  subst hsz
  have hD := hD0.self (sz := s.heap.size)
  generalize hAe : va_A (cw_w C L K z r A) s.heap.size = Ad at hD ⊢
  have hA : ∀ q : Nat, s.heap.size ≤ q → Ad q := fun q h => by rw [← hAe]; exact Or.inr h
  have hS : va_S Ad s.heap s.heap [] := va_S.rf
  have hl := lv_entry ([.ref y0, .int (hz_i y1)]) (n := 2) (Nat.le_of_ble_eq_true rfl)
  rw [lg_entry_eq]
  generalize (lg_sl ([.ref y0, .int (hz_i y1)]) ++ List.replicate (2 - (lg_sl ([.ref y0, .int (hz_i y1)])).length) Slot.unset).toArray = ls at hl ⊢
  have hl : lv_has ls 2 [(0, .ref y0), (1, .int (hz_i y1))] := hl
  refine mw_Q (fun QQ hQQ => ?_)
  have hP0 := hP; have hD0 := hD; have hS0 := hS; have hl0 := hl; have hw0 := hw
  clear hP hD hS hl hw
  have L23 : ∀ (t0 : Int), wp_c0_digit_23 L K z r A t0  Q → ∀ (H : Heap) (locs : List Loc) (ls : Array Slot), va_P D vwCl (cw_w C L K z r A) H → va_D Ad (cw_w C L K z r A) → va_S Ad s.heap H locs → lv_has ls 2 [] → W p l e (headSpec wsX0_digit ({ frames := 0, cells := 0, slots := 0, locals := 0 } : Room)).room s m (List.toArray [.ref y0, .int (hz_i y1)]) below meth c H locs 0 0 QQ (F0 m 23 ls [.long (hz_l t0)]) := by
    intro t0 hw H locs ls hP hD hS hl
    subst hQQ
    subst hAe
    exact W.lret (v := hz_l t0) hx hb hr (fun t ht hW => ⟨⟨hz_l t0, (t0, z, r, A), rfl, ⟨rfl, hw⟩, by rw [ht]; exact hP, va_K.moved hW.alike hK, hD⟩, hS.F ht⟩) hS.2.2 dX0_digit_23
  have hP := hP0; have hD := hD0; have hS := hS0; have hl := hl0; have hw := hw0
  obtain ⟨H, hH⟩ : ∃ H : Heap, H = s.heap := ⟨_, rfl⟩
  obtain ⟨locs, hlocs⟩ : ∃ L : List Loc, L = [] := ⟨_, rfl⟩
  rw [← hH] at hP
  have hS : va_S Ad s.heap H locs := by rw [hH, hlocs]; exact hS
  refine mw_HL hH hlocs ?_
  refine lv_iload_n hx hb dX0_digit_0 rfl (lv_at hl 1 rfl) ?_
  refine lv_aload_n hx hb dX0_digit_1 rfl (lv_at hl 0 rfl) ?_
  obtain ⟨hO_1, hw⟩ := hw
  refine cw_get (ci := 0) (v := .int (hz_i (z y0 1))) hx hb hts hin0 hown hK hP hO_1.1 hO_1.2 rfl 1 (by decide) (hts (.fieldLink RX0 7 "HiddenMoves$Big" "length" "I") (List.mem_cons_of_mem _ (List.mem_append_left _ (List.mem_of_getElem? (i := 0) rfl)))) (fun _ h9 => h9) rfl dX0_digit_2 ?_
  obtain ⟨h9a, hw⟩ := hw
  obtain ⟨h9b, hw⟩ := hw
  refine hz_icmp_ge (tgt := 22) hx hb dX0_digit_5 (by decide) h9a h9b (fun c_2 => ?_) (fun c_2 => ?_)
  · have hw := hw.1 c_2
    refine lv_lconst (v := hz_l 0) hx hb dX0_digit_22 (by decide +kernel) ?_
    exact L23 0 hw H locs ls hP hD hS (lv_sub hl [] rfl)
  · have hw := hw.2 c_2
    refine lv_aload_n hx hb dX0_digit_8 rfl (lv_at hl 0 rfl) ?_
    refine cw_get (ci := 0) (v := .ref (r y0 0)) hx hb hts hin0 hown hK hP hO_1.1 hO_1.2 rfl 0 (by decide) (hts (.fieldLink RX0 17 "HiddenMoves$Big" "digits" "[I") (List.mem_cons_of_mem _ (List.mem_append_left _ (List.mem_of_getElem? (i := 1) rfl)))) (fun _ h9 => h9) rfl dX0_digit_9 ?_
    refine lv_iload_n hx hb dX0_digit_12 rfl (lv_at hl 1 rfl) ?_
    obtain ⟨hO_3, hw⟩ := hw
    obtain ⟨h9i, hw⟩ := hw
    refine cw_ild hx hb hK hP hO_3.1 hO_3.2.2 h9i hO_3.2.1 dX0_digit_13 ?_
    obtain ⟨h9a, hw⟩ := hw
    refine hz_wi2l hx hb dX0_digit_14 h9a ?_
    refine lv_ldc2 hx hb hown (hts (.constantLong RX0 33 (4294967295)) (List.mem_cons_of_mem _ (List.mem_append_left _ (List.mem_of_getElem? (i := 2) rfl)))) dX0_digit_15 ?_
    refine hz_asl (b := 4294967295) (by decide +kernel) ?_
    refine cw_land (P := 4294967296) hx hb 32 dX0_digit_18 (by decide) (by decide +kernel) (by decide +kernel) (fun x9_4 hx9_4a => ?_)
    have hw := hw x9_4 hx9_4a
    refine lv_goto (tgt := 23) hx hb dX0_digit_19 (by decide) ?_
    exact L23 x9_4 hw H locs ls hP hD hS (lv_sub hl [] rfl)

noncomputable def wp_c0_trim_59 (L : List Nat) (K : Nat → cw_K) (z : Nat → Nat → Int) (r : Nat → Nat → Nat) (A : Nat → Nat → Int) (t0 : Int) (t1 : Nat) (Q : (Nat → Nat → Int) → Prop) : Prop := cw_O L K 0 t1 ∧ (t0 = 0 ∨ t0 = 1) ∧ ∀ z_2 : Nat → Nat → Int, z_2 = cw_s z t1 2 t0 → Q z_2
noncomputable def wp_c0_trim_58 (L : List Nat) (K : Nat → cw_K) (z : Nat → Nat → Int) (r : Nat → Nat → Nat) (A : Nat → Nat → Int) (t0 : Nat) (Q : (Nat → Nat → Int) → Prop) : Prop := wp_c0_trim_59 L K z r A 0 t0  Q
noncomputable def wp_c0_trim_39 (L : List Nat) (K : Nat → cw_K) (z : Nat → Nat → Int) (r : Nat → Nat → Nat) (A : Nat → Nat → Int) (y0 : Nat) (Q : (Nat → Nat → Int) → Prop) : Prop := cw_O L K 0 y0 ∧ hz_rI (z y0 2) ∧ ((z y0 2 = 0 → wp_c0_trim_58 L K z r A y0  Q) ∧ (¬ (z y0 2 = 0) → hz_rI (z y0 1) ∧ ((z y0 1 ≤ 0 → wp_c0_trim_58 L K z r A y0  Q) ∧ (¬ (z y0 1 ≤ 0) → wp_c0_trim_59 L K z r A 1 y0  Q))))
noncomputable def wp_c0_trim_5 (L : List Nat) (K : Nat → cw_K) (z : Nat → Nat → Int) (r : Nat → Nat → Nat) (A : Nat → Nat → Int) (y0 : Nat) (Q : (Nat → Nat → Int) → Prop) : Prop := ∀ P5 : (Nat → Nat → Int) → Prop, (∀ (z : Nat → Nat → Int), cw_O L K 0 y0 ∧ hz_rI (z y0 1) ∧ ((z y0 1 ≤ 0 → wp_c0_trim_39 L K z r A y0  Q) ∧ (¬ (z y0 1 ≤ 0) → cw_A L K 0 (r y0 0) ∧ ((0 : Int) ≤ (z y0 1) - 1 ∧ (z y0 1) - 1 < (cw_n K (r y0 0) : Int)) ∧ hz_rI (A (r y0 0) (((z y0 1) - 1).toNat)) ∧ ((¬ A (r y0 0) (((z y0 1) - 1).toNat) = 0 → wp_c0_trim_39 L K z r A y0  Q) ∧ (A (r y0 0) (((z y0 1) - 1).toNat) = 0 → ∀ z_10 : Nat → Nat → Int, z_10 = cw_s z y0 1 ((z y0 1) - 1) → P5 z_10)))) → P5 z) → P5 z
noncomputable def wp_c0_trim (L : List Nat) (K : Nat → cw_K) (z : Nat → Nat → Int) (r : Nat → Nat → Nat) (A : Nat → Nat → Int) (y0 : Nat) (y1 : Int) (Q : (Nat → Nat → Int) → Prop) : Prop := cw_O L K 0 y0 ∧ ∀ z_12 : Nat → Nat → Int, z_12 = cw_s z y0 1 y1 → wp_c0_trim_5 L K z_12 r A y0  Q
set_option maxHeartbeats 4000000 in
set_option maxRecDepth 100000 in
theorem k_c0_trim (l : Launch) (D : va_G) (sz : Nat) (C : Nat → ClassId) (L : List Nat) (K : Nat → cw_K) (z : Nat → Nat → Int) (r : Nat → Nat → Nat) (A : Nat → Nat → Int) (y0 : Nat) (y1 : Int) (Q : (Nat → Nat → Int) → Prop) (hw : wp_c0_trim L K z r A y0 y1 Q) : Met l yX0_trim wsX0_trim ({ frames := 0, cells := 0, slots := 0, locals := 0 } : Room) (va_Pc [.ref y0, .int (hz_i y1)] (hm_P D (cw_w C L K z r A) (cw_t C) sz)) (va_Qv (S := Int × (Nat → Nat → Int) × (Nat → Nat → Nat) × (Nat → Nat → Int)) (fun u => Q u.2.1) (fun u t => hm_B D (va_A (cw_w C L K z r A) sz) (cw_w C L K u.2.1 r A) (cw_t C) t) (va_A (cw_w C L K z r A) sz)) 0 0 (va_A (cw_w C L K z r A) sz) := by
  refine Met.ofW (cc := cX0_trim) (maxL := 2) (ret := none) (by decide) rfl ?_
  intro p e s m args below meth c s₁ B hml hv
  obtain ⟨rfl, hsz, hP, hK, hD0, hE⟩ := hv
  have hx := B.exec
  have hb := B.bytes
  have hr := B.returns
  have hts := atoms_spec (ws := wsX0_trim) B.pre
  have hown : s.vm.findClass RX0 = some m.cls := findClass_of_methodNamed B.named
  have hlocks := B.notSynchronized
  have hin0 : ∀ w ∈ u_ws RX0 TX0 3, w ∈ wsX0_trim := fun w h => List.mem_cons_of_mem _ (List.mem_append_right _ (h))
  subst hsz
  have hD := hD0.self (sz := s.heap.size)
  generalize hAe : va_A (cw_w C L K z r A) s.heap.size = Ad at hD ⊢
  have hA : ∀ q : Nat, s.heap.size ≤ q → Ad q := fun q h => by rw [← hAe]; exact Or.inr h
  have hS : va_S Ad s.heap s.heap [] := va_S.rf
  have hl := lv_entry ([.ref y0, .int (hz_i y1)]) (n := 2) (Nat.le_of_ble_eq_true rfl)
  rw [lg_entry_eq]
  generalize (lg_sl ([.ref y0, .int (hz_i y1)]) ++ List.replicate (2 - (lg_sl ([.ref y0, .int (hz_i y1)])).length) Slot.unset).toArray = ls at hl ⊢
  have hl : lv_has ls 2 [(0, .ref y0), (1, .int (hz_i y1))] := hl
  refine mw_Q (fun QQ hQQ => ?_)
  have hP0 := hP; have hD0 := hD; have hS0 := hS; have hl0 := hl; have hw0 := hw
  clear hP hD hS hl hw
  have L59 : ∀ (z : Nat → Nat → Int) (t0 : Int) (t1 : Nat), wp_c0_trim_59 L K z r A t0 t1  Q → ∀ (H : Heap) (locs : List Loc) (ls : Array Slot), va_P D vwCl (cw_w C L K z r A) H → va_D Ad (cw_w C L K z r A) → va_S Ad s.heap H locs → lv_has ls 2 [] → W p l e (headSpec wsX0_trim ({ frames := 0, cells := 0, slots := 0, locals := 0 } : Room)).room s m (List.toArray [.ref y0, .int (hz_i y1)]) below meth c H locs 0 0 QQ (F0 m 59 ls [.int (hz_i t0), .ref t1]) := by
    intro z t0 t1 hw H locs ls hP hD hS hl
    obtain ⟨hO_1, hw⟩ := hw
    obtain ⟨h9z, hw⟩ := hw
    refine cw_putz (ci := 0) (ty := .boolean) (v := .int (hz_i t0)) (x := t0) hx hb hts hin0 tyX0 tyX0_ok nmX0 hown hK hP hD hS hO_1.1 hO_1.2 rfl 2 (by decide) (hts (.fieldLink RX0 13 "HiddenMoves$Big" "below" "Z") (List.mem_cons_of_mem _ (List.mem_append_left _ (List.mem_of_getElem? (i := 2) rfl)))) (fun _ h9 => h9) rfl (by decide +kernel) (hz_tZ h9z) (hz_fZ h9z) (Nat.le_of_ble_eq_true rfl) (cw_z0_2 _ _ _) dX0_trim_59 (fun H locs hP hD hS => ?_)
    obtain ⟨z_2, hz_2⟩ : ∃ y : Nat → Nat → Int, y = cw_s z t1 2 t0 := ⟨_, rfl⟩
    rw [← hz_2] at hP hD
    have hw := hw z_2 hz_2
    subst hQQ
    subst hAe
    exact W.vret hx hb hr (fun t ht hW => ⟨⟨(0, z_2, r, A), rfl, hw, by rw [ht]; exact hP, va_K.moved hW.alike hK, hD⟩, hS.F ht⟩) hS.2.2 dX0_trim_62
  have L58 : ∀ (z : Nat → Nat → Int) (t0 : Nat), wp_c0_trim_58 L K z r A t0  Q → ∀ (H : Heap) (locs : List Loc) (ls : Array Slot), va_P D vwCl (cw_w C L K z r A) H → va_D Ad (cw_w C L K z r A) → va_S Ad s.heap H locs → lv_has ls 2 [] → W p l e (headSpec wsX0_trim ({ frames := 0, cells := 0, slots := 0, locals := 0 } : Room)).room s m (List.toArray [.ref y0, .int (hz_i y1)]) below meth c H locs 0 0 QQ (F0 m 58 ls [.ref t0]) := by
    intro z t0 hw H locs ls hP hD hS hl
    refine lv_iconst (v := hz_i 0) hx hb dX0_trim_58 (by decide +kernel) ?_
    exact L59 z 0 t0 hw H locs ls hP hD hS (lv_sub hl [] rfl)
  have L39 : ∀ (z : Nat → Nat → Int), wp_c0_trim_39 L K z r A y0  Q → ∀ (H : Heap) (locs : List Loc) (ls : Array Slot), va_P D vwCl (cw_w C L K z r A) H → va_D Ad (cw_w C L K z r A) → va_S Ad s.heap H locs → lv_has ls 2 [(0, .ref y0)] → W p l e (headSpec wsX0_trim ({ frames := 0, cells := 0, slots := 0, locals := 0 } : Room)).room s m (List.toArray [.ref y0, .int (hz_i y1)]) below meth c H locs 0 0 QQ (F0 m 39 ls []) := by
    intro z hw H locs ls hP hD hS hl
    refine lv_aload_n hx hb dX0_trim_39 rfl (lv_at hl 0 rfl) ?_
    refine lv_aload_n hx hb dX0_trim_40 rfl (lv_at hl 0 rfl) ?_
    obtain ⟨hO_3, hw⟩ := hw
    refine cw_get (ci := 0) (v := .int (hz_i (z y0 2))) hx hb hts hin0 hown hK hP hO_3.1 hO_3.2 rfl 2 (by decide) (hts (.fieldLink RX0 13 "HiddenMoves$Big" "below" "Z") (List.mem_cons_of_mem _ (List.mem_append_left _ (List.mem_of_getElem? (i := 2) rfl)))) (fun _ h9 => h9) rfl dX0_trim_41 ?_
    obtain ⟨h9a, hw⟩ := hw
    refine hz_if_eq (tgt := 58) hx hb dX0_trim_44 (by decide) h9a (fun c_4 => ?_) (fun c_4 => ?_)
    · have hw := hw.1 c_4
      exact L58 z y0 hw H locs ls hP hD hS (lv_sub hl [] rfl)
    · have hw := hw.2 c_4
      refine lv_aload_n hx hb dX0_trim_47 rfl (lv_at hl 0 rfl) ?_
      refine cw_get (ci := 0) (v := .int (hz_i (z y0 1))) hx hb hts hin0 hown hK hP hO_3.1 hO_3.2 rfl 1 (by decide) (hts (.fieldLink RX0 7 "HiddenMoves$Big" "length" "I") (List.mem_cons_of_mem _ (List.mem_append_left _ (List.mem_of_getElem? (i := 0) rfl)))) (fun _ h9 => h9) rfl dX0_trim_48 ?_
      obtain ⟨h9a, hw⟩ := hw
      refine hz_if_le (tgt := 58) hx hb dX0_trim_51 (by decide) h9a (fun c_5 => ?_) (fun c_5 => ?_)
      · have hw := hw.1 c_5
        exact L58 z y0 hw H locs ls hP hD hS (lv_sub hl [] rfl)
      · have hw := hw.2 c_5
        refine lv_iconst (v := hz_i 1) hx hb dX0_trim_54 (by decide +kernel) ?_
        refine lv_goto (tgt := 59) hx hb dX0_trim_55 (by decide) ?_
        exact L59 z 1 y0 hw H locs ls hP hD hS (lv_sub hl [] rfl)
  have L5 : ∀ (z : Nat → Nat → Int), wp_c0_trim_5 L K z r A y0  Q → ∀ (H : Heap) (locs : List Loc) (ls : Array Slot), va_P D vwCl (cw_w C L K z r A) H → va_D Ad (cw_w C L K z r A) → va_S Ad s.heap H locs → lv_has ls 2 [(0, .ref y0)] → W p l e (headSpec wsX0_trim ({ frames := 0, cells := 0, slots := 0, locals := 0 } : Room)).room s m (List.toArray [.ref y0, .int (hz_i y1)]) below meth c H locs 0 0 QQ (F0 m 5 ls []) := by
    intro z hw
    obtain ⟨P5, hP5⟩ : ∃ P : (Nat → Nat → Int) → Prop, ∀ (z : Nat → Nat → Int), P z ↔ (∀ (H : Heap) (locs : List Loc) (ls : Array Slot), va_P D vwCl (cw_w C L K z r A) H → va_D Ad (cw_w C L K z r A) → va_S Ad s.heap H locs → lv_has ls 2 [(0, .ref y0)] → W p l e (headSpec wsX0_trim ({ frames := 0, cells := 0, slots := 0, locals := 0 } : Room)).room s m (List.toArray [.ref y0, .int (hz_i y1)]) below meth c H locs 0 0 QQ (F0 m 5 ls [])) := ⟨fun (z : Nat → Nat → Int) => ∀ (H : Heap) (locs : List Loc) (ls : Array Slot), va_P D vwCl (cw_w C L K z r A) H → va_D Ad (cw_w C L K z r A) → va_S Ad s.heap H locs → lv_has ls 2 [(0, .ref y0)] → W p l e (headSpec wsX0_trim ({ frames := 0, cells := 0, slots := 0, locals := 0 } : Room)).room s m (List.toArray [.ref y0, .int (hz_i y1)]) below meth c H locs 0 0 QQ (F0 m 5 ls []), fun _ => Iff.rfl⟩
    refine (hP5 z).mp (hw P5 ?_)
    intro z hw
    refine (hP5 z).mpr ?_
    intro H locs ls hP hD hS hl
    refine lv_aload_n hx hb dX0_trim_5 rfl (lv_at hl 0 rfl) ?_
    obtain ⟨hO_6, hw⟩ := hw
    refine cw_get (ci := 0) (v := .int (hz_i (z y0 1))) hx hb hts hin0 hown hK hP hO_6.1 hO_6.2 rfl 1 (by decide) (hts (.fieldLink RX0 7 "HiddenMoves$Big" "length" "I") (List.mem_cons_of_mem _ (List.mem_append_left _ (List.mem_of_getElem? (i := 0) rfl)))) (fun _ h9 => h9) rfl dX0_trim_6 ?_
    obtain ⟨h9a, hw⟩ := hw
    refine hz_if_le (tgt := 39) hx hb dX0_trim_9 (by decide) h9a (fun c_7 => ?_) (fun c_7 => ?_)
    · have hw := hw.1 c_7
      exact L39 z hw H locs ls hP hD hS (lv_sub hl [0] rfl)
    · have hw := hw.2 c_7
      refine lv_aload_n hx hb dX0_trim_12 rfl (lv_at hl 0 rfl) ?_
      refine cw_get (ci := 0) (v := .ref (r y0 0)) hx hb hts hin0 hown hK hP hO_6.1 hO_6.2 rfl 0 (by decide) (hts (.fieldLink RX0 17 "HiddenMoves$Big" "digits" "[I") (List.mem_cons_of_mem _ (List.mem_append_left _ (List.mem_of_getElem? (i := 1) rfl)))) (fun _ h9 => h9) rfl dX0_trim_13 ?_
      refine lv_aload_n hx hb dX0_trim_16 rfl (lv_at hl 0 rfl) ?_
      refine cw_get (ci := 0) (v := .int (hz_i (z y0 1))) hx hb hts hin0 hown hK hP hO_6.1 hO_6.2 rfl 1 (by decide) (hts (.fieldLink RX0 7 "HiddenMoves$Big" "length" "I") (List.mem_cons_of_mem _ (List.mem_append_left _ (List.mem_of_getElem? (i := 0) rfl)))) (fun _ h9 => h9) rfl dX0_trim_17 ?_
      refine lv_iconst (v := hz_i 1) hx hb dX0_trim_20 (by decide +kernel) ?_
      refine hz_isub hx hb dX0_trim_21 ?_
      obtain ⟨hO_8, hw⟩ := hw
      obtain ⟨h9i, hw⟩ := hw
      refine cw_ild hx hb hK hP hO_8.1 hO_8.2.2 h9i hO_8.2.1 dX0_trim_22 ?_
      obtain ⟨h9a, hw⟩ := hw
      refine hz_if_ne (tgt := 39) hx hb dX0_trim_23 (by decide) h9a (fun c_9 => ?_) (fun c_9 => ?_)
      · have hw := hw.1 c_9
        exact L39 z hw H locs ls hP hD hS (lv_sub hl [0] rfl)
      · have hw := hw.2 c_9
        refine lv_aload_n hx hb dX0_trim_26 rfl (lv_at hl 0 rfl) ?_
        refine lv_dup hx hb dX0_trim_27 rfl ?_
        refine cw_get (ci := 0) (v := .int (hz_i (z y0 1))) hx hb hts hin0 hown hK hP hO_6.1 hO_6.2 rfl 1 (by decide) (hts (.fieldLink RX0 7 "HiddenMoves$Big" "length" "I") (List.mem_cons_of_mem _ (List.mem_append_left _ (List.mem_of_getElem? (i := 0) rfl)))) (fun _ h9 => h9) rfl dX0_trim_28 ?_
        refine lv_iconst (v := hz_i 1) hx hb dX0_trim_31 (by decide +kernel) ?_
        refine hz_isub hx hb dX0_trim_32 ?_
        refine cw_putz (ci := 0) (ty := .int) (v := .int (hz_i ((z y0 1) - 1))) (x := (z y0 1) - 1) hx hb hts hin0 tyX0 tyX0_ok nmX0 hown hK hP hD hS hO_6.1 hO_6.2 rfl 1 (by decide) (hts (.fieldLink RX0 7 "HiddenMoves$Big" "length" "I") (List.mem_cons_of_mem _ (List.mem_append_left _ (List.mem_of_getElem? (i := 0) rfl)))) (fun _ h9 => h9) rfl (by decide +kernel) rfl rfl (Nat.le_of_ble_eq_true rfl) (cw_z0_1 _ _ _) dX0_trim_33 (fun H locs hP hD hS => ?_)
        obtain ⟨z_10, hz_10⟩ : ∃ y : Nat → Nat → Int, y = cw_s z y0 1 ((z y0 1) - 1) := ⟨_, rfl⟩
        rw [← hz_10] at hP hD
        have hw := hw z_10 hz_10
        refine lv_goto (tgt := 5) hx hb dX0_trim_36 (by decide) ?_
        exact (hP5 z_10).mp hw H locs ls hP hD hS (lv_sub hl [0] rfl)
  have hP := hP0; have hD := hD0; have hS := hS0; have hl := hl0; have hw := hw0
  obtain ⟨H, hH⟩ : ∃ H : Heap, H = s.heap := ⟨_, rfl⟩
  obtain ⟨locs, hlocs⟩ : ∃ L : List Loc, L = [] := ⟨_, rfl⟩
  rw [← hH] at hP
  have hS : va_S Ad s.heap H locs := by rw [hH, hlocs]; exact hS
  refine mw_HL hH hlocs ?_
  refine lv_aload_n hx hb dX0_trim_0 rfl (lv_at hl 0 rfl) ?_
  refine lv_iload_n hx hb dX0_trim_1 rfl (lv_at hl 1 rfl) ?_
  obtain ⟨hO_11, hw⟩ := hw
  refine cw_putz (ci := 0) (ty := .int) (v := .int (hz_i y1)) (x := y1) hx hb hts hin0 tyX0 tyX0_ok nmX0 hown hK hP hD hS hO_11.1 hO_11.2 rfl 1 (by decide) (hts (.fieldLink RX0 7 "HiddenMoves$Big" "length" "I") (List.mem_cons_of_mem _ (List.mem_append_left _ (List.mem_of_getElem? (i := 0) rfl)))) (fun _ h9 => h9) rfl (by decide +kernel) rfl rfl (Nat.le_of_ble_eq_true rfl) (cw_z0_1 _ _ _) dX0_trim_2 (fun H locs hP hD hS => ?_)
  obtain ⟨z_12, hz_12⟩ : ∃ y : Nat → Nat → Int, y = cw_s z y0 1 y1 := ⟨_, rfl⟩
  rw [← hz_12] at hP hD
  have hw := hw z_12 hz_12
  exact L5 z_12 hw H locs ls hP hD hS (lv_sub hl [0] rfl)

noncomputable def wp_c0_divideBySmall_57 (L : List Nat) (K : Nat → cw_K) (z : Nat → Nat → Int) (r : Nat → Nat → Nat) (A : Nat → Nat → Int) (y0 : Nat) (x2 : Int) (Q : Int → (Nat → Nat → Int) → (Nat → Nat → Int) → Prop) : Prop := cw_O L K 0 y0 ∧ wp_c0_trim L K z r A y0 (z y0 1) (fun z_3 => ∀ x9_4 : Int, hz_rI x9_4 → x9_4 % 4294967296 = x2 % 4294967296 → Q x9_4 z_3 A)
noncomputable def wp_c0_divideBySmall_10 (L : List Nat) (K : Nat → cw_K) (z : Nat → Nat → Int) (r : Nat → Nat → Nat) (A : Nat → Nat → Int) (y0 : Nat) (y1 : Int) (x2 : Int) (x4 : Int) (Q : Int → (Nat → Nat → Int) → (Nat → Nat → Int) → Prop) : Prop := ∀ P10 : (Nat → Nat → Int) → Int → Int → Prop, (∀ (A : Nat → Nat → Int) (x2 : Int) (x4 : Int), hz_rI x4 ∧ ((x4 < 0 → wp_c0_divideBySmall_57 L K z r A y0 x2  Q) ∧ (¬ (x4 < 0) → hz_rI y1 ∧ ((y1 ≤ 0 → wp_c0_divideBySmall_57 L K z r A y0 x2  Q) ∧ (¬ (y1 ≤ 0) → ∀ x9_7 : Int, hz_rL x9_7 → x9_7 % 18446744073709551616 = x2 * 4294967296 % 18446744073709551616 → cw_O L K 0 y0 ∧ wp_c0_digit L K z r A y0 x4 (fun rv_8 => ∀ x9_10 : Int, hz_rL x9_10 → (((0 ≤ x9_7 ∧ x9_7 < 4294967296 ∧ rv_8 % 4294967296 = 0) ∨ (0 ≤ rv_8 ∧ rv_8 < 4294967296 ∧ x9_7 % 4294967296 = 0)) → x9_10 % 18446744073709551616 = (x9_7 + rv_8) % 18446744073709551616) → hz_rI y1 ∧ ¬ y1 = 0 ∧ hz_rL x9_10 ∧ hz_rL y1 ∧ ∀ x9_11 : Int, hz_rI x9_11 → x9_11 % 4294967296 = (x9_10.tdiv y1) % 4294967296 → cw_A L K 0 (r y0 0) ∧ ((0 : Int) ≤ x4 ∧ x4 < (cw_n K (r y0 0) : Int)) ∧ ∀ A_13 : Nat → Nat → Int, A_13 = hz_s A (r y0 0) x4 x9_11 → hz_rI y1 ∧ ¬ y1 = 0 ∧ hz_rL x9_10 ∧ hz_rL y1 ∧ ∀ x2_14 : Int, x2_14 = x9_10.tmod y1 → ∀ x4_15 : Int, x4_15 = x4 + (-1) → P10 A_13 x2_14 x4_15))))) → P10 A x2 x4) → P10 A x2 x4
noncomputable def wp_c0_divideBySmall (L : List Nat) (K : Nat → cw_K) (z : Nat → Nat → Int) (r : Nat → Nat → Nat) (A : Nat → Nat → Int) (y0 : Nat) (y1 : Int) (Q : Int → (Nat → Nat → Int) → (Nat → Nat → Int) → Prop) : Prop := cw_O L K 0 y0 ∧ ∀ x4_17 : Int, x4_17 = (z y0 1) - 1 → wp_c0_divideBySmall_10 L K z r A y0 y1 0 x4_17  Q
set_option maxHeartbeats 4000000 in
set_option maxRecDepth 100000 in
theorem k_c0_divideBySmall (l : Launch) (D : va_G) (sz : Nat) (C : Nat → ClassId) (L : List Nat) (K : Nat → cw_K) (z : Nat → Nat → Int) (r : Nat → Nat → Nat) (A : Nat → Nat → Int) (y0 : Nat) (y1 : Int) (Q : Int → (Nat → Nat → Int) → (Nat → Nat → Int) → Prop) (hw : wp_c0_divideBySmall L K z r A y0 y1 Q) : Met l yX0_divideBySmall wsX0_divideBySmall ({ frames := 1, cells := 0, slots := 0, locals := 21 } : Room) (va_Pc [.ref y0, .int (hz_i y1)] (hm_P D (cw_w C L K z r A) (cw_t C) sz)) (va_Qi (S := Int × (Nat → Nat → Int) × (Nat → Nat → Nat) × (Nat → Nat → Int)) (fun r u => r = hz_i u.1 ∧ Q u.1 u.2.1 u.2.2.2) (fun u t => hm_B D (va_A (cw_w C L K z r A) sz) (cw_w C L K u.2.1 r u.2.2.2) (cw_t C) t) (va_A (cw_w C L K z r A) sz)) 0 0 (va_A (cw_w C L K z r A) sz) := by
  refine Met.ofW (cc := cX0_divideBySmall) (maxL := 7) (ret := (some .int)) (by decide) rfl ?_
  intro p e s m args below meth c s₁ B hml hv
  obtain ⟨rfl, hsz, hP, hK, hD0, hE⟩ := hv
  have hx := B.exec
  have hb := B.bytes
  have hr := B.returns
  have hts := atoms_spec (ws := wsX0_divideBySmall) B.pre
  have hown : s.vm.findClass RX0 = some m.cls := findClass_of_methodNamed B.named
  have hlocks := B.notSynchronized
  have hin0 : ∀ w ∈ u_ws RX0 TX0 3, w ∈ wsX0_divideBySmall := fun w h => List.mem_cons_of_mem _ (List.mem_append_right _ (h))
  subst hsz
  have hD := hD0.self (sz := s.heap.size)
  generalize hAe : va_A (cw_w C L K z r A) s.heap.size = Ad at hD ⊢
  have hA : ∀ q : Nat, s.heap.size ≤ q → Ad q := fun q h => by rw [← hAe]; exact Or.inr h
  have hS : va_S Ad s.heap s.heap [] := va_S.rf
  have hl := lv_entry ([.ref y0, .int (hz_i y1)]) (n := 7) (Nat.le_of_ble_eq_true rfl)
  rw [lg_entry_eq]
  generalize (lg_sl ([.ref y0, .int (hz_i y1)]) ++ List.replicate (7 - (lg_sl ([.ref y0, .int (hz_i y1)])).length) Slot.unset).toArray = ls at hl ⊢
  have hl : lv_has ls 7 [(0, .ref y0), (1, .int (hz_i y1))] := hl
  refine mw_Q (fun QQ hQQ => ?_)
  have hP0 := hP; have hD0 := hD; have hS0 := hS; have hl0 := hl; have hw0 := hw
  clear hP hD hS hl hw
  have L57 : ∀ (z : Nat → Nat → Int) (A : Nat → Nat → Int) (x2 : Int), wp_c0_divideBySmall_57 L K z r A y0 x2  Q → ∀ (H : Heap) (locs : List Loc) (ls : Array Slot), va_P D vwCl (cw_w C L K z r A) H → va_D Ad (cw_w C L K z r A) → va_S Ad s.heap H locs → lv_has ls 7 [(0, .ref y0), (2, .long (hz_l x2))] → W p l e (headSpec wsX0_divideBySmall ({ frames := 1, cells := 0, slots := 0, locals := 21 } : Room)).room s m (List.toArray [.ref y0, .int (hz_i y1)]) below meth c H locs 0 0 QQ (F0 m 57 ls []) := by
    intro z A x2 hw H locs ls hP hD hS hl
    refine lv_aload_n hx hb dX0_divideBySmall_57 rfl (lv_at hl 0 rfl) ?_
    refine lv_aload_n hx hb dX0_divideBySmall_58 rfl (lv_at hl 0 rfl) ?_
    obtain ⟨hO_1, hw⟩ := hw
    refine cw_get (ci := 0) (v := .int (hz_i (z y0 1))) hx hb hts hin0 hown hK hP hO_1.1 hO_1.2 rfl 1 (by decide) (hts (.fieldLink RX0 7 "HiddenMoves$Big" "length" "I") (List.mem_cons_of_mem _ (List.mem_append_left _ (List.mem_of_getElem? (i := 0) rfl)))) (fun _ h9 => h9) rfl dX0_divideBySmall_59 ?_
    have hFc := cw_free hD hS hA
    obtain ⟨q9, hq9⟩ := cw_at (C := C) (z := z) (r := r) (A := A) hO_1.1 hO_1.2
    refine va_callv (va_runV (As := [.int (hz_i (z y0 1))]) (rest := []) ⟨hx, hb, hml, hown, hts⟩ (k_c0_trim l D _ C L K z r A y0 (z y0 1) _ hw) (cwV 1 hts gX0_divideBySmall_X0_trim rfl rfl rfl (by decide +kernel) ⟨Nat.le_of_ble_eq_true rfl, Nat.le_of_ble_eq_true rfl⟩) ⟨hm_blind, va_recv hK hP (ci := 0) (q0 := q9) rfl hq9, hm_pre hP hK hD hE⟩ rfl rfl hl.1 rfl (lv_room (Nat.le_of_ble_eq_true rfl)) dX0_divideBySmall_62 ⟨Nat.le_of_ble_eq_true rfl, Nat.le_of_ble_eq_true rfl⟩) hS (fun q _ h => hFc q h) hFc (fun u t H1 locs ht hvm hw hB hz1 hk1 hS => ?_)
    obtain ⟨rv_2, z_3, _, _⟩ := u
    obtain ⟨hP, hK1, hD1⟩ := hB
    rw [ht] at hP
    have hD := hD1.weaken (fun k q _ h => hFc q.1 h)
    have hP : va_P D vwCl (cw_w C L K z_3 r A) H1 := hP
    have hD : va_D Ad (cw_w C L K z_3 r A) := hD
    generalize H1 = H at hP hS ⊢
    refine W.eq (g2 := F0 m 65 ls []) rfl ?_
    refine lv_lload_n hx hb dX0_divideBySmall_65 rfl (lv_at hl 1 rfl) ?_
    refine cw_l2i hx hb dX0_divideBySmall_66 (fun x9_4 hx9_4a hx9_4b => ?_)
    have hw := hw x9_4 hx9_4a hx9_4b
    subst hQQ
    subst hAe
    exact W.iret (v := hz_i x9_4) hx hb hr (fun t ht hW => ⟨⟨hz_i x9_4, (x9_4, z_3, r, A), rfl, ⟨rfl, hw⟩, by rw [ht]; exact hP, va_K.moved hW.alike hK, hD⟩, hS.F ht⟩) hS.2.2 dX0_divideBySmall_67
  have L10 : ∀ (z : Nat → Nat → Int) (A : Nat → Nat → Int) (x2 : Int) (x4 : Int), wp_c0_divideBySmall_10 L K z r A y0 y1 x2 x4  Q → ∀ (H : Heap) (locs : List Loc) (ls : Array Slot), va_P D vwCl (cw_w C L K z r A) H → va_D Ad (cw_w C L K z r A) → va_S Ad s.heap H locs → lv_has ls 7 [(0, .ref y0), (1, .int (hz_i y1)), (2, .long (hz_l x2)), (4, .int (hz_i x4))] → W p l e (headSpec wsX0_divideBySmall ({ frames := 1, cells := 0, slots := 0, locals := 21 } : Room)).room s m (List.toArray [.ref y0, .int (hz_i y1)]) below meth c H locs 0 0 QQ (F0 m 10 ls []) := by
    intro z A x2 x4 hw
    obtain ⟨P10, hP10⟩ : ∃ P : (Nat → Nat → Int) → Int → Int → Prop, ∀ (A : Nat → Nat → Int) (x2 : Int) (x4 : Int), P A x2 x4 ↔ (∀ (H : Heap) (locs : List Loc) (ls : Array Slot), va_P D vwCl (cw_w C L K z r A) H → va_D Ad (cw_w C L K z r A) → va_S Ad s.heap H locs → lv_has ls 7 [(0, .ref y0), (1, .int (hz_i y1)), (2, .long (hz_l x2)), (4, .int (hz_i x4))] → W p l e (headSpec wsX0_divideBySmall ({ frames := 1, cells := 0, slots := 0, locals := 21 } : Room)).room s m (List.toArray [.ref y0, .int (hz_i y1)]) below meth c H locs 0 0 QQ (F0 m 10 ls [])) := ⟨fun (A : Nat → Nat → Int) (x2 : Int) (x4 : Int) => ∀ (H : Heap) (locs : List Loc) (ls : Array Slot), va_P D vwCl (cw_w C L K z r A) H → va_D Ad (cw_w C L K z r A) → va_S Ad s.heap H locs → lv_has ls 7 [(0, .ref y0), (1, .int (hz_i y1)), (2, .long (hz_l x2)), (4, .int (hz_i x4))] → W p l e (headSpec wsX0_divideBySmall ({ frames := 1, cells := 0, slots := 0, locals := 21 } : Room)).room s m (List.toArray [.ref y0, .int (hz_i y1)]) below meth c H locs 0 0 QQ (F0 m 10 ls []), fun _ _ _ => Iff.rfl⟩
    refine (hP10 A x2 x4).mp (hw P10 ?_)
    intro A x2 x4 hw
    refine (hP10 A x2 x4).mpr ?_
    intro H locs ls hP hD hS hl
    refine lv_iload hx hb dX0_divideBySmall_10 (lv_at hl 3 rfl) ?_
    obtain ⟨h9a, hw⟩ := hw
    refine hz_if_lt (tgt := 57) hx hb dX0_divideBySmall_12 (by decide) h9a (fun c_5 => ?_) (fun c_5 => ?_)
    · have hw := hw.1 c_5
      exact L57 z A x2 hw H locs ls hP hD hS (lv_sub hl [0, 2] rfl)
    · have hw := hw.2 c_5
      refine lv_iload_n hx hb dX0_divideBySmall_15 rfl (lv_at hl 1 rfl) ?_
      obtain ⟨h9a, hw⟩ := hw
      refine hz_if_le (tgt := 57) hx hb dX0_divideBySmall_16 (by decide) h9a (fun c_6 => ?_) (fun c_6 => ?_)
      · have hw := hw.1 c_6
        exact L57 z A x2 hw H locs ls hP hD hS (lv_sub hl [0, 2] rfl)
      · have hw := hw.2 c_6
        refine lv_lload_n hx hb dX0_divideBySmall_19 rfl (lv_at hl 2 rfl) ?_
        refine lv_bipush (v := hz_i 32) hx hb dX0_divideBySmall_20 (by decide +kernel) ?_
        refine cw_lshl (P := 4294967296) (d := 32) hx hb dX0_divideBySmall_22 (by decide +kernel) (by decide +kernel) (fun x9_7 hx9_7a hx9_7b => ?_)
        have hw := hw x9_7 hx9_7a hx9_7b
        refine lv_aload_n hx hb dX0_divideBySmall_23 rfl (lv_at hl 0 rfl) ?_
        refine lv_iload hx hb dX0_divideBySmall_24 (lv_at hl 3 rfl) ?_
        obtain ⟨hO_9, hw⟩ := hw
        have hFc := cw_free hD hS hA
        obtain ⟨q9, hq9⟩ := cw_at (C := C) (z := z) (r := r) (A := A) hO_9.1 hO_9.2
        refine va_calll (va_runV (As := [.int (hz_i x4)]) (rest := [.long (hz_l x9_7)]) ⟨hx, hb, hml, hown, hts⟩ (k_c0_digit l D _ C L K z r A y0 x4 _ hw) (cwV 1 hts gX0_divideBySmall_X0_digit rfl rfl rfl (by decide +kernel) ⟨Nat.le_of_ble_eq_true rfl, Nat.le_of_ble_eq_true rfl⟩) ⟨hm_blind, va_recv hK hP (ci := 0) (q0 := q9) rfl hq9, hm_pre hP hK hD hE⟩ rfl rfl hl.1 rfl (lv_room (Nat.le_of_ble_eq_true rfl)) dX0_divideBySmall_26 ⟨Nat.le_of_ble_eq_true rfl, Nat.le_of_ble_eq_true rfl⟩) hS (fun q _ h => hFc q h) hFc (fun rv u t H1 locs ht hvm hw hB hz1 hk1 hS => ?_)
        obtain ⟨rv_8, _, _, _⟩ := u
        obtain ⟨hP, hK1, hD1⟩ := hB
        rw [ht] at hP
        obtain ⟨hrv, hw⟩ := hw
        subst hrv
        have hD := hD1.weaken (fun k q _ h => hFc q.1 h)
        have hP : va_P D vwCl (cw_w C L K z r A) H1 := hP
        have hD : va_D Ad (cw_w C L K z r A) := hD
        generalize H1 = H at hP hS ⊢
        refine W.eq (g2 := F0 m 29 ls [.long (hz_l rv_8), .long (hz_l x9_7)]) rfl ?_
        refine cw_lor hx hb dX0_divideBySmall_29 (fun x9_10 hx9_10a hx9_10b => ?_)
        have hw := hw x9_10 hx9_10a hx9_10b
        refine lv_lstore (lv' := [(5, .long (hz_l x9_10)), (0, .ref y0), (1, .int (hz_i y1)), (2, .long (hz_l x2)), (4, .int (hz_i x4))]) hx hb dX0_divideBySmall_30 hl (by decide) rfl (fun ls hl => ?_)
        refine lv_aload_n hx hb dX0_divideBySmall_32 rfl (lv_at hl 1 rfl) ?_
        refine cw_get (ci := 0) (v := .ref (r y0 0)) hx hb hts hin0 hown hK hP hO_9.1 hO_9.2 rfl 0 (by decide) (hts (.fieldLink RX0 17 "HiddenMoves$Big" "digits" "[I") (List.mem_cons_of_mem _ (List.mem_append_left _ (List.mem_of_getElem? (i := 1) rfl)))) (fun _ h9 => h9) rfl dX0_divideBySmall_33 ?_
        refine lv_iload hx hb dX0_divideBySmall_36 (lv_at hl 4 rfl) ?_
        refine lv_lload hx hb dX0_divideBySmall_38 (lv_at hl 0 rfl) ?_
        refine lv_iload_n hx hb dX0_divideBySmall_40 rfl (lv_at hl 2 rfl) ?_
        obtain ⟨h9a, hw⟩ := hw
        refine hz_wi2l hx hb dX0_divideBySmall_41 h9a ?_
        obtain ⟨h9n, h9a, h9b, hw⟩ := hw
        refine hz_ldiv hx hb dX0_divideBySmall_42 h9n h9a h9b ?_
        refine cw_l2i hx hb dX0_divideBySmall_43 (fun x9_11 hx9_11a hx9_11b => ?_)
        have hw := hw x9_11 hx9_11a hx9_11b
        obtain ⟨hO_12, hw⟩ := hw
        obtain ⟨h9i, hw⟩ := hw
        refine cw_ist (v := x9_11) hx hb hK hP hD hS hO_12.1 hO_12.2.2 h9i hO_12.2.1 dX0_divideBySmall_44 (fun H locs hP hD hS => ?_)
        obtain ⟨A_13, hA_13⟩ : ∃ y : Nat → Nat → Int, y = hz_s A (r y0 0) x4 x9_11 := ⟨_, rfl⟩
        rw [← hA_13] at hP hD
        have hw := hw A_13 hA_13
        refine lv_lload hx hb dX0_divideBySmall_45 (lv_at hl 0 rfl) ?_
        refine lv_iload_n hx hb dX0_divideBySmall_47 rfl (lv_at hl 2 rfl) ?_
        obtain ⟨h9a, hw⟩ := hw
        refine hz_wi2l hx hb dX0_divideBySmall_48 h9a ?_
        obtain ⟨h9n, h9a, h9b, hw⟩ := hw
        refine hz_lrem hx hb dX0_divideBySmall_49 h9n h9a h9b ?_
        refine hz_topl (fun x2_14 hx2_14 => ?_)
        have hw := hw x2_14 hx2_14
        refine lv_lstore_n (lv' := [(2, .long (hz_l x2_14)), (5, .long (hz_l x9_10)), (0, .ref y0), (1, .int (hz_i y1)), (4, .int (hz_i x4))]) hx hb dX0_divideBySmall_50 rfl hl (by decide) rfl (fun ls hl => ?_)
        obtain ⟨x4_15, hx4_15⟩ : ∃ y : Int, y = x4 + (-1) := ⟨_, rfl⟩
        have hw := hw x4_15 hx4_15
        refine lv_iinc (v := hz_i x4_15) (lv' := [(4, .int (hz_i x4_15)), (2, .long (hz_l x2_14)), (5, .long (hz_l x9_10)), (0, .ref y0), (1, .int (hz_i y1))]) hx hb dX0_divideBySmall_51 hl (k := 4) rfl (by rw [hx4_15]; exact hz_i_add _ _) (by decide) rfl (fun ls hl => ?_)
        refine lv_goto (tgt := 10) hx hb dX0_divideBySmall_54 (by decide) ?_
        exact (hP10 A_13 x2_14 x4_15).mp hw H locs ls hP hD hS (lv_sub hl [3, 4, 1, 0] rfl)
  have hP := hP0; have hD := hD0; have hS := hS0; have hl := hl0; have hw := hw0
  obtain ⟨H, hH⟩ : ∃ H : Heap, H = s.heap := ⟨_, rfl⟩
  obtain ⟨locs, hlocs⟩ : ∃ L : List Loc, L = [] := ⟨_, rfl⟩
  rw [← hH] at hP
  have hS : va_S Ad s.heap H locs := by rw [hH, hlocs]; exact hS
  refine mw_HL hH hlocs ?_
  refine lv_lconst (v := hz_l 0) hx hb dX0_divideBySmall_0 (by decide +kernel) ?_
  refine lv_lstore_n (lv' := [(2, .long (hz_l 0)), (0, .ref y0), (1, .int (hz_i y1))]) hx hb dX0_divideBySmall_1 rfl hl (by decide) rfl (fun ls hl => ?_)
  refine lv_aload_n hx hb dX0_divideBySmall_2 rfl (lv_at hl 1 rfl) ?_
  obtain ⟨hO_16, hw⟩ := hw
  refine cw_get (ci := 0) (v := .int (hz_i (z y0 1))) hx hb hts hin0 hown hK hP hO_16.1 hO_16.2 rfl 1 (by decide) (hts (.fieldLink RX0 7 "HiddenMoves$Big" "length" "I") (List.mem_cons_of_mem _ (List.mem_append_left _ (List.mem_of_getElem? (i := 0) rfl)))) (fun _ h9 => h9) rfl dX0_divideBySmall_3 ?_
  refine lv_iconst (v := hz_i 1) hx hb dX0_divideBySmall_6 (by decide +kernel) ?_
  refine hz_isub hx hb dX0_divideBySmall_7 ?_
  refine hz_topi (fun x4_17 hx4_17 => ?_)
  have hw := hw x4_17 hx4_17
  refine lv_istore (lv' := [(4, .int (hz_i x4_17)), (2, .long (hz_l 0)), (0, .ref y0), (1, .int (hz_i y1))]) hx hb dX0_divideBySmall_8 hl (by decide) rfl (fun ls hl => ?_)
  exact L10 z A 0 x4_17 hw H locs ls hP hD hS (lv_sub hl [2, 3, 1, 0] rfl)

noncomputable def wp_c0_isOne_30 (L : List Nat) (K : Nat → cw_K) (z : Nat → Nat → Int) (r : Nat → Nat → Nat) (A : Nat → Nat → Int) (t0 : Int) (Q : Int → Prop) : Prop := (t0 = 0 ∨ t0 = 1) ∧ Q t0
noncomputable def wp_c0_isOne_29 (L : List Nat) (K : Nat → cw_K) (z : Nat → Nat → Int) (r : Nat → Nat → Nat) (A : Nat → Nat → Int) (Q : Int → Prop) : Prop := wp_c0_isOne_30 L K z r A 0  Q
noncomputable def wp_c0_isOne (L : List Nat) (K : Nat → cw_K) (z : Nat → Nat → Int) (r : Nat → Nat → Nat) (A : Nat → Nat → Int) (y0 : Nat) (Q : Int → Prop) : Prop := cw_O L K 0 y0 ∧ hz_rI (z y0 1) ∧ ((¬ z y0 1 = 1 → wp_c0_isOne_29 L K z r A  Q) ∧ (z y0 1 = 1 → cw_A L K 0 (r y0 0) ∧ ((0 : Int) ≤ 0 ∧ 0 < (cw_n K (r y0 0) : Int)) ∧ hz_rI (A (r y0 0) ((0 : Int).toNat)) ∧ ((¬ A (r y0 0) ((0 : Int).toNat) = 1 → wp_c0_isOne_29 L K z r A  Q) ∧ (A (r y0 0) ((0 : Int).toNat) = 1 → hz_rI (z y0 2) ∧ ((¬ z y0 2 = 0 → wp_c0_isOne_29 L K z r A  Q) ∧ (z y0 2 = 0 → wp_c0_isOne_30 L K z r A 1  Q))))))
set_option maxHeartbeats 4000000 in
set_option maxRecDepth 100000 in
theorem k_c0_isOne (l : Launch) (D : va_G) (sz : Nat) (C : Nat → ClassId) (L : List Nat) (K : Nat → cw_K) (z : Nat → Nat → Int) (r : Nat → Nat → Nat) (A : Nat → Nat → Int) (y0 : Nat) (Q : Int → Prop) (hw : wp_c0_isOne L K z r A y0 Q) : Met l yX0_isOne wsX0_isOne ({ frames := 0, cells := 0, slots := 0, locals := 0 } : Room) (va_Pc [.ref y0] (hm_P D (cw_w C L K z r A) (cw_t C) sz)) (va_Qi (S := Int × (Nat → Nat → Int) × (Nat → Nat → Nat) × (Nat → Nat → Int)) (fun r u => r = hz_i u.1 ∧ Q u.1) (fun u t => hm_B D (va_A (cw_w C L K z r A) sz) (cw_w C L K z r A) (cw_t C) t) (va_A (cw_w C L K z r A) sz)) 0 0 (va_A (cw_w C L K z r A) sz) := by
  refine Met.ofW (cc := cX0_isOne) (maxL := 1) (ret := (some .boolean)) (by decide) rfl ?_
  intro p e s m args below meth c s₁ B hml hv
  obtain ⟨rfl, hsz, hP, hK, hD0, hE⟩ := hv
  have hx := B.exec
  have hb := B.bytes
  have hr := B.returns
  have hts := atoms_spec (ws := wsX0_isOne) B.pre
  have hown : s.vm.findClass RX0 = some m.cls := findClass_of_methodNamed B.named
  have hlocks := B.notSynchronized
  have hin0 : ∀ w ∈ u_ws RX0 TX0 3, w ∈ wsX0_isOne := fun w h => List.mem_cons_of_mem _ (List.mem_append_right _ (h))
  subst hsz
  have hD := hD0.self (sz := s.heap.size)
  generalize hAe : va_A (cw_w C L K z r A) s.heap.size = Ad at hD ⊢
  have hA : ∀ q : Nat, s.heap.size ≤ q → Ad q := fun q h => by rw [← hAe]; exact Or.inr h
  have hS : va_S Ad s.heap s.heap [] := va_S.rf
  have hl := lv_entry ([.ref y0]) (n := 1) (Nat.le_of_ble_eq_true rfl)
  rw [lg_entry_eq]
  generalize (lg_sl ([.ref y0]) ++ List.replicate (1 - (lg_sl ([.ref y0])).length) Slot.unset).toArray = ls at hl ⊢
  have hl : lv_has ls 1 [(0, .ref y0)] := hl
  refine mw_Q (fun QQ hQQ => ?_)
  have hP0 := hP; have hD0 := hD; have hS0 := hS; have hl0 := hl; have hw0 := hw
  clear hP hD hS hl hw
  have L30 : ∀ (t0 : Int), wp_c0_isOne_30 L K z r A t0  Q → ∀ (H : Heap) (locs : List Loc) (ls : Array Slot), va_P D vwCl (cw_w C L K z r A) H → va_D Ad (cw_w C L K z r A) → va_S Ad s.heap H locs → lv_has ls 1 [] → W p l e (headSpec wsX0_isOne ({ frames := 0, cells := 0, slots := 0, locals := 0 } : Room)).room s m (List.toArray [.ref y0]) below meth c H locs 0 0 QQ (F0 m 30 ls [.int (hz_i t0)]) := by
    intro t0 hw H locs ls hP hD hS hl
    obtain ⟨h9z, hw⟩ := hw
    subst hQQ
    subst hAe
    exact W.zret (v := hz_i t0) hx hb hr (hz_tZ h9z) (fun t ht hW => ⟨⟨hz_i t0, (t0, z, r, A), rfl, ⟨rfl, hw⟩, by rw [ht]; exact hP, va_K.moved hW.alike hK, hD⟩, hS.F ht⟩) hS.2.2 dX0_isOne_30
  have L29 : wp_c0_isOne_29 L K z r A  Q → ∀ (H : Heap) (locs : List Loc) (ls : Array Slot), va_P D vwCl (cw_w C L K z r A) H → va_D Ad (cw_w C L K z r A) → va_S Ad s.heap H locs → lv_has ls 1 [] → W p l e (headSpec wsX0_isOne ({ frames := 0, cells := 0, slots := 0, locals := 0 } : Room)).room s m (List.toArray [.ref y0]) below meth c H locs 0 0 QQ (F0 m 29 ls []) := by
    intro  hw H locs ls hP hD hS hl
    refine lv_iconst (v := hz_i 0) hx hb dX0_isOne_29 (by decide +kernel) ?_
    exact L30 0 hw H locs ls hP hD hS (lv_sub hl [] rfl)
  have hP := hP0; have hD := hD0; have hS := hS0; have hl := hl0; have hw := hw0
  obtain ⟨H, hH⟩ : ∃ H : Heap, H = s.heap := ⟨_, rfl⟩
  obtain ⟨locs, hlocs⟩ : ∃ L : List Loc, L = [] := ⟨_, rfl⟩
  rw [← hH] at hP
  have hS : va_S Ad s.heap H locs := by rw [hH, hlocs]; exact hS
  refine mw_HL hH hlocs ?_
  refine lv_aload_n hx hb dX0_isOne_0 rfl (lv_at hl 0 rfl) ?_
  obtain ⟨hO_1, hw⟩ := hw
  refine cw_get (ci := 0) (v := .int (hz_i (z y0 1))) hx hb hts hin0 hown hK hP hO_1.1 hO_1.2 rfl 1 (by decide) (hts (.fieldLink RX0 7 "HiddenMoves$Big" "length" "I") (List.mem_cons_of_mem _ (List.mem_append_left _ (List.mem_of_getElem? (i := 0) rfl)))) (fun _ h9 => h9) rfl dX0_isOne_1 ?_
  refine lv_iconst (v := hz_i 1) hx hb dX0_isOne_4 (by decide +kernel) ?_
  obtain ⟨h9a, hw⟩ := hw
  refine hz_icmp_ne (tgt := 29) hx hb dX0_isOne_5 (by decide) h9a ⟨by decide, by decide⟩ (fun c_2 => ?_) (fun c_2 => ?_)
  · have hw := hw.1 c_2
    exact L29  hw H locs ls hP hD hS (lv_sub hl [] rfl)
  · have hw := hw.2 c_2
    refine lv_aload_n hx hb dX0_isOne_8 rfl (lv_at hl 0 rfl) ?_
    refine cw_get (ci := 0) (v := .ref (r y0 0)) hx hb hts hin0 hown hK hP hO_1.1 hO_1.2 rfl 0 (by decide) (hts (.fieldLink RX0 17 "HiddenMoves$Big" "digits" "[I") (List.mem_cons_of_mem _ (List.mem_append_left _ (List.mem_of_getElem? (i := 1) rfl)))) (fun _ h9 => h9) rfl dX0_isOne_9 ?_
    refine lv_iconst (v := hz_i 0) hx hb dX0_isOne_12 (by decide +kernel) ?_
    obtain ⟨hO_3, hw⟩ := hw
    obtain ⟨h9i, hw⟩ := hw
    refine cw_ild hx hb hK hP hO_3.1 hO_3.2.2 h9i hO_3.2.1 dX0_isOne_13 ?_
    refine lv_iconst (v := hz_i 1) hx hb dX0_isOne_14 (by decide +kernel) ?_
    obtain ⟨h9a, hw⟩ := hw
    refine hz_icmp_ne (tgt := 29) hx hb dX0_isOne_15 (by decide) h9a ⟨by decide, by decide⟩ (fun c_4 => ?_) (fun c_4 => ?_)
    · have hw := hw.1 c_4
      exact L29  hw H locs ls hP hD hS (lv_sub hl [] rfl)
    · have hw := hw.2 c_4
      refine lv_aload_n hx hb dX0_isOne_18 rfl (lv_at hl 0 rfl) ?_
      refine cw_get (ci := 0) (v := .int (hz_i (z y0 2))) hx hb hts hin0 hown hK hP hO_1.1 hO_1.2 rfl 2 (by decide) (hts (.fieldLink RX0 13 "HiddenMoves$Big" "below" "Z") (List.mem_cons_of_mem _ (List.mem_append_left _ (List.mem_of_getElem? (i := 2) rfl)))) (fun _ h9 => h9) rfl dX0_isOne_19 ?_
      obtain ⟨h9a, hw⟩ := hw
      refine hz_if_ne (tgt := 29) hx hb dX0_isOne_22 (by decide) h9a (fun c_5 => ?_) (fun c_5 => ?_)
      · have hw := hw.1 c_5
        exact L29  hw H locs ls hP hD hS (lv_sub hl [] rfl)
      · have hw := hw.2 c_5
        refine lv_iconst (v := hz_i 1) hx hb dX0_isOne_25 (by decide +kernel) ?_
        refine lv_goto (tgt := 30) hx hb dX0_isOne_26 (by decide) ?_
        exact L30 1 hw H locs ls hP hD hS (lv_sub hl [] rfl)

noncomputable def wp_c0_lowZeros_51 (L : List Nat) (K : Nat → cw_K) (z : Nat → Nat → Int) (r : Nat → Nat → Nat) (A : Nat → Nat → Int) (t0 : Int) (Q : Int → Prop) : Prop := Q t0
noncomputable def wp_c0_lowZeros_25 (L : List Nat) (K : Nat → cw_K) (z : Nat → Nat → Int) (r : Nat → Nat → Nat) (A : Nat → Nat → Int) (y0 : Nat) (x1 : Int) (Q : Int → Prop) : Prop := cw_O L K 0 y0 ∧ hz_rI x1 ∧ hz_rI (z y0 1) ∧ ((z y0 1 ≤ x1 → wp_c0_lowZeros_51 L K z r A 0  Q) ∧ (¬ (z y0 1 ≤ x1) → cw_A L K 0 (r y0 0) ∧ ((0 : Int) ≤ x1 ∧ x1 < (cw_n K (r y0 0) : Int)) ∧ wp_cj6 L K z r A (A (r y0 0) (x1.toNat)) (fun rv_4 => wp_c0_lowZeros_51 L K z r A ((32 * x1) + rv_4)  Q)))
noncomputable def wp_c0_lowZeros_2 (L : List Nat) (K : Nat → cw_K) (z : Nat → Nat → Int) (r : Nat → Nat → Nat) (A : Nat → Nat → Int) (y0 : Nat) (x1 : Int) (Q : Int → Prop) : Prop := ∀ P2 : Int → Prop, (∀ (x1 : Int), cw_O L K 0 y0 ∧ hz_rI x1 ∧ hz_rI (z y0 1) ∧ ((z y0 1 ≤ x1 → wp_c0_lowZeros_25 L K z r A y0 x1  Q) ∧ (¬ (z y0 1 ≤ x1) → cw_A L K 0 (r y0 0) ∧ ((0 : Int) ≤ x1 ∧ x1 < (cw_n K (r y0 0) : Int)) ∧ hz_rI (A (r y0 0) (x1.toNat)) ∧ ((¬ A (r y0 0) (x1.toNat) = 0 → wp_c0_lowZeros_25 L K z r A y0 x1  Q) ∧ (A (r y0 0) (x1.toNat) = 0 → ∀ x1_9 : Int, x1_9 = x1 + 1 → P2 x1_9)))) → P2 x1) → P2 x1
noncomputable def wp_c0_lowZeros (L : List Nat) (K : Nat → cw_K) (z : Nat → Nat → Int) (r : Nat → Nat → Nat) (A : Nat → Nat → Int) (y0 : Nat) (Q : Int → Prop) : Prop := wp_c0_lowZeros_2 L K z r A y0 0  Q
set_option maxHeartbeats 4000000 in
set_option maxRecDepth 100000 in
theorem k_c0_lowZeros (l : Launch) (D : va_G) (sz : Nat) (C : Nat → ClassId) (L : List Nat) (K : Nat → cw_K) (z : Nat → Nat → Int) (r : Nat → Nat → Nat) (A : Nat → Nat → Int) (y0 : Nat) (Q : Int → Prop) (hw : wp_c0_lowZeros L K z r A y0 Q) : Met l yX0_lowZeros wsX0_lowZeros ({ frames := 1, cells := 0, slots := 0, locals := 21 } : Room) (va_Pc [.ref y0] (hm_P D (cw_w C L K z r A) (cw_t C) sz)) (va_Qi (S := Int × (Nat → Nat → Int) × (Nat → Nat → Nat) × (Nat → Nat → Int)) (fun r u => r = hz_i u.1 ∧ Q u.1) (fun u t => hm_B D (va_A (cw_w C L K z r A) sz) (cw_w C L K z r A) (cw_t C) t) (va_A (cw_w C L K z r A) sz)) 0 0 (va_A (cw_w C L K z r A) sz) := by
  refine Met.ofW (cc := cX0_lowZeros) (maxL := 2) (ret := (some .int)) (by decide) rfl ?_
  intro p e s m args below meth c s₁ B hml hv
  obtain ⟨rfl, hsz, hP, hK, hD0, hE⟩ := hv
  have hx := B.exec
  have hb := B.bytes
  have hr := B.returns
  have hts := atoms_spec (ws := wsX0_lowZeros) B.pre
  have hown : s.vm.findClass RX0 = some m.cls := findClass_of_methodNamed B.named
  have hlocks := B.notSynchronized
  have hin0 : ∀ w ∈ u_ws RX0 TX0 3, w ∈ wsX0_lowZeros := fun w h => List.mem_cons_of_mem _ (List.mem_append_right _ (h))
  subst hsz
  have hD := hD0.self (sz := s.heap.size)
  generalize hAe : va_A (cw_w C L K z r A) s.heap.size = Ad at hD ⊢
  have hA : ∀ q : Nat, s.heap.size ≤ q → Ad q := fun q h => by rw [← hAe]; exact Or.inr h
  have hS : va_S Ad s.heap s.heap [] := va_S.rf
  have hl := lv_entry ([.ref y0]) (n := 2) (Nat.le_of_ble_eq_true rfl)
  rw [lg_entry_eq]
  generalize (lg_sl ([.ref y0]) ++ List.replicate (2 - (lg_sl ([.ref y0])).length) Slot.unset).toArray = ls at hl ⊢
  have hl : lv_has ls 2 [(0, .ref y0)] := hl
  refine mw_Q (fun QQ hQQ => ?_)
  have hP0 := hP; have hD0 := hD; have hS0 := hS; have hl0 := hl; have hw0 := hw
  clear hP hD hS hl hw
  have L51 : ∀ (t0 : Int), wp_c0_lowZeros_51 L K z r A t0  Q → ∀ (H : Heap) (locs : List Loc) (ls : Array Slot), va_P D vwCl (cw_w C L K z r A) H → va_D Ad (cw_w C L K z r A) → va_S Ad s.heap H locs → lv_has ls 2 [] → W p l e (headSpec wsX0_lowZeros ({ frames := 1, cells := 0, slots := 0, locals := 21 } : Room)).room s m (List.toArray [.ref y0]) below meth c H locs 0 0 QQ (F0 m 51 ls [.int (hz_i t0)]) := by
    intro t0 hw H locs ls hP hD hS hl
    subst hQQ
    subst hAe
    exact W.iret (v := hz_i t0) hx hb hr (fun t ht hW => ⟨⟨hz_i t0, (t0, z, r, A), rfl, ⟨rfl, hw⟩, by rw [ht]; exact hP, va_K.moved hW.alike hK, hD⟩, hS.F ht⟩) hS.2.2 dX0_lowZeros_51
  have L25 : ∀ (x1 : Int), wp_c0_lowZeros_25 L K z r A y0 x1  Q → ∀ (H : Heap) (locs : List Loc) (ls : Array Slot), va_P D vwCl (cw_w C L K z r A) H → va_D Ad (cw_w C L K z r A) → va_S Ad s.heap H locs → lv_has ls 2 [(0, .ref y0), (1, .int (hz_i x1))] → W p l e (headSpec wsX0_lowZeros ({ frames := 1, cells := 0, slots := 0, locals := 21 } : Room)).room s m (List.toArray [.ref y0]) below meth c H locs 0 0 QQ (F0 m 25 ls []) := by
    intro x1 hw H locs ls hP hD hS hl
    refine lv_iload_n hx hb dX0_lowZeros_25 rfl (lv_at hl 1 rfl) ?_
    refine lv_aload_n hx hb dX0_lowZeros_26 rfl (lv_at hl 0 rfl) ?_
    obtain ⟨hO_1, hw⟩ := hw
    refine cw_get (ci := 0) (v := .int (hz_i (z y0 1))) hx hb hts hin0 hown hK hP hO_1.1 hO_1.2 rfl 1 (by decide) (hts (.fieldLink RX0 7 "HiddenMoves$Big" "length" "I") (List.mem_cons_of_mem _ (List.mem_append_left _ (List.mem_of_getElem? (i := 0) rfl)))) (fun _ h9 => h9) rfl dX0_lowZeros_27 ?_
    obtain ⟨h9a, hw⟩ := hw
    obtain ⟨h9b, hw⟩ := hw
    refine hz_icmp_ge (tgt := 50) hx hb dX0_lowZeros_30 (by decide) h9a h9b (fun c_2 => ?_) (fun c_2 => ?_)
    · have hw := hw.1 c_2
      refine lv_iconst (v := hz_i 0) hx hb dX0_lowZeros_50 (by decide +kernel) ?_
      exact L51 0 hw H locs ls hP hD hS (lv_sub hl [] rfl)
    · have hw := hw.2 c_2
      refine lv_bipush (v := hz_i 32) hx hb dX0_lowZeros_33 (by decide +kernel) ?_
      refine lv_iload_n hx hb dX0_lowZeros_35 rfl (lv_at hl 1 rfl) ?_
      refine hz_imul hx hb dX0_lowZeros_36 ?_
      refine lv_aload_n hx hb dX0_lowZeros_37 rfl (lv_at hl 0 rfl) ?_
      refine cw_get (ci := 0) (v := .ref (r y0 0)) hx hb hts hin0 hown hK hP hO_1.1 hO_1.2 rfl 0 (by decide) (hts (.fieldLink RX0 17 "HiddenMoves$Big" "digits" "[I") (List.mem_cons_of_mem _ (List.mem_append_left _ (List.mem_of_getElem? (i := 1) rfl)))) (fun _ h9 => h9) rfl dX0_lowZeros_38 ?_
      refine lv_iload_n hx hb dX0_lowZeros_41 rfl (lv_at hl 1 rfl) ?_
      obtain ⟨hO_3, hw⟩ := hw
      obtain ⟨h9i, hw⟩ := hw
      refine cw_ild hx hb hK hP hO_3.1 hO_3.2.2 h9i hO_3.2.1 dX0_lowZeros_42 ?_
      have hFc := cw_free hD hS hA
      refine va_calli (va_runS (As := [.int (hz_i (A (r y0 0) (x1.toNat)))]) (rest := [.int (hz_i (32 * x1))]) ⟨hx, hb, hml, hown, hts⟩ (k_cj6 l D _ C L K z r A (A (r y0 0) (x1.toNat)) _ hw) (va_cwS 1 hts gX0_lowZeros_J6_numberOfTrailingZeros_0f7a4 rfl rfl rfl (by decide +kernel) ⟨Nat.le_of_ble_eq_true rfl, Nat.le_of_ble_eq_true rfl⟩) ⟨hm_blind, hm_pre hP hK hD hE⟩ rfl rfl hl.1 rfl (lv_room (Nat.le_of_ble_eq_true rfl)) dX0_lowZeros_43 ⟨Nat.le_of_ble_eq_true rfl, Nat.le_of_ble_eq_true rfl⟩) hS (fun q _ h => hFc q h) hFc (fun rv u t H1 locs ht hvm hw hB hz1 hk1 hS => ?_)
      obtain ⟨rv_4, _, _, _⟩ := u
      obtain ⟨hP, hK1, hD1⟩ := hB
      rw [ht] at hP
      obtain ⟨hrv, hw⟩ := hw
      subst hrv
      have hD := hD1.weaken (fun k q _ h => hFc q.1 h)
      have hP : va_P D vwCl (cw_w C L K z r A) H1 := hP
      have hD : va_D Ad (cw_w C L K z r A) := hD
      generalize H1 = H at hP hS ⊢
      refine W.eq (g2 := F0 m 46 ls [.int (hz_i rv_4), .int (hz_i (32 * x1))]) rfl ?_
      refine hz_iadd hx hb dX0_lowZeros_46 ?_
      refine lv_goto (tgt := 51) hx hb dX0_lowZeros_47 (by decide) ?_
      exact L51 ((32 * x1) + rv_4) hw H locs ls hP hD hS (lv_sub hl [] rfl)
  have L2 : ∀ (x1 : Int), wp_c0_lowZeros_2 L K z r A y0 x1  Q → ∀ (H : Heap) (locs : List Loc) (ls : Array Slot), va_P D vwCl (cw_w C L K z r A) H → va_D Ad (cw_w C L K z r A) → va_S Ad s.heap H locs → lv_has ls 2 [(0, .ref y0), (1, .int (hz_i x1))] → W p l e (headSpec wsX0_lowZeros ({ frames := 1, cells := 0, slots := 0, locals := 21 } : Room)).room s m (List.toArray [.ref y0]) below meth c H locs 0 0 QQ (F0 m 2 ls []) := by
    intro x1 hw
    obtain ⟨P2, hP2⟩ : ∃ P : Int → Prop, ∀ (x1 : Int), P x1 ↔ (∀ (H : Heap) (locs : List Loc) (ls : Array Slot), va_P D vwCl (cw_w C L K z r A) H → va_D Ad (cw_w C L K z r A) → va_S Ad s.heap H locs → lv_has ls 2 [(0, .ref y0), (1, .int (hz_i x1))] → W p l e (headSpec wsX0_lowZeros ({ frames := 1, cells := 0, slots := 0, locals := 21 } : Room)).room s m (List.toArray [.ref y0]) below meth c H locs 0 0 QQ (F0 m 2 ls [])) := ⟨fun (x1 : Int) => ∀ (H : Heap) (locs : List Loc) (ls : Array Slot), va_P D vwCl (cw_w C L K z r A) H → va_D Ad (cw_w C L K z r A) → va_S Ad s.heap H locs → lv_has ls 2 [(0, .ref y0), (1, .int (hz_i x1))] → W p l e (headSpec wsX0_lowZeros ({ frames := 1, cells := 0, slots := 0, locals := 21 } : Room)).room s m (List.toArray [.ref y0]) below meth c H locs 0 0 QQ (F0 m 2 ls []), fun _ => Iff.rfl⟩
    refine (hP2 x1).mp (hw P2 ?_)
    intro x1 hw
    refine (hP2 x1).mpr ?_
    intro H locs ls hP hD hS hl
    refine lv_iload_n hx hb dX0_lowZeros_2 rfl (lv_at hl 1 rfl) ?_
    refine lv_aload_n hx hb dX0_lowZeros_3 rfl (lv_at hl 0 rfl) ?_
    obtain ⟨hO_5, hw⟩ := hw
    refine cw_get (ci := 0) (v := .int (hz_i (z y0 1))) hx hb hts hin0 hown hK hP hO_5.1 hO_5.2 rfl 1 (by decide) (hts (.fieldLink RX0 7 "HiddenMoves$Big" "length" "I") (List.mem_cons_of_mem _ (List.mem_append_left _ (List.mem_of_getElem? (i := 0) rfl)))) (fun _ h9 => h9) rfl dX0_lowZeros_4 ?_
    obtain ⟨h9a, hw⟩ := hw
    obtain ⟨h9b, hw⟩ := hw
    refine hz_icmp_ge (tgt := 25) hx hb dX0_lowZeros_7 (by decide) h9a h9b (fun c_6 => ?_) (fun c_6 => ?_)
    · have hw := hw.1 c_6
      exact L25 x1 hw H locs ls hP hD hS (lv_sub hl [0, 1] rfl)
    · have hw := hw.2 c_6
      refine lv_aload_n hx hb dX0_lowZeros_10 rfl (lv_at hl 0 rfl) ?_
      refine cw_get (ci := 0) (v := .ref (r y0 0)) hx hb hts hin0 hown hK hP hO_5.1 hO_5.2 rfl 0 (by decide) (hts (.fieldLink RX0 17 "HiddenMoves$Big" "digits" "[I") (List.mem_cons_of_mem _ (List.mem_append_left _ (List.mem_of_getElem? (i := 1) rfl)))) (fun _ h9 => h9) rfl dX0_lowZeros_11 ?_
      refine lv_iload_n hx hb dX0_lowZeros_14 rfl (lv_at hl 1 rfl) ?_
      obtain ⟨hO_7, hw⟩ := hw
      obtain ⟨h9i, hw⟩ := hw
      refine cw_ild hx hb hK hP hO_7.1 hO_7.2.2 h9i hO_7.2.1 dX0_lowZeros_15 ?_
      obtain ⟨h9a, hw⟩ := hw
      refine hz_if_ne (tgt := 25) hx hb dX0_lowZeros_16 (by decide) h9a (fun c_8 => ?_) (fun c_8 => ?_)
      · have hw := hw.1 c_8
        exact L25 x1 hw H locs ls hP hD hS (lv_sub hl [0, 1] rfl)
      · have hw := hw.2 c_8
        obtain ⟨x1_9, hx1_9⟩ : ∃ y : Int, y = x1 + 1 := ⟨_, rfl⟩
        have hw := hw x1_9 hx1_9
        refine lv_iinc (v := hz_i x1_9) (lv' := [(1, .int (hz_i x1_9)), (0, .ref y0)]) hx hb dX0_lowZeros_19 hl (k := 1) rfl (by rw [hx1_9]; exact hz_i_add _ _) (by decide) rfl (fun ls hl => ?_)
        refine lv_goto (tgt := 2) hx hb dX0_lowZeros_22 (by decide) ?_
        exact (hP2 x1_9).mp hw H locs ls hP hD hS (lv_sub hl [1, 0] rfl)
  have hP := hP0; have hD := hD0; have hS := hS0; have hl := hl0; have hw := hw0
  obtain ⟨H, hH⟩ : ∃ H : Heap, H = s.heap := ⟨_, rfl⟩
  obtain ⟨locs, hlocs⟩ : ∃ L : List Loc, L = [] := ⟨_, rfl⟩
  rw [← hH] at hP
  have hS : va_S Ad s.heap H locs := by rw [hH, hlocs]; exact hS
  refine mw_HL hH hlocs ?_
  refine lv_iconst (v := hz_i 0) hx hb dX0_lowZeros_0 (by decide +kernel) ?_
  refine lv_istore_n (lv' := [(1, .int (hz_i 0)), (0, .ref y0)]) hx hb dX0_lowZeros_1 rfl hl (by decide) rfl (fun ls hl => ?_)
  exact L2 0 hw H locs ls hP hD hS (lv_sub hl [1, 0] rfl)

noncomputable def wp_c0_negate_20 (L : List Nat) (K : Nat → cw_K) (z : Nat → Nat → Int) (r : Nat → Nat → Nat) (A : Nat → Nat → Int) (t0 : Int) (t1 : Nat) (Q : (Nat → Nat → Int) → Prop) : Prop := cw_O L K 0 t1 ∧ (t0 = 0 ∨ t0 = 1) ∧ ∀ z_2 : Nat → Nat → Int, z_2 = cw_s z t1 2 t0 → Q z_2
noncomputable def wp_c0_negate_19 (L : List Nat) (K : Nat → cw_K) (z : Nat → Nat → Int) (r : Nat → Nat → Nat) (A : Nat → Nat → Int) (t0 : Nat) (Q : (Nat → Nat → Int) → Prop) : Prop := wp_c0_negate_20 L K z r A 0 t0  Q
noncomputable def wp_c0_negate (L : List Nat) (K : Nat → cw_K) (z : Nat → Nat → Int) (r : Nat → Nat → Nat) (A : Nat → Nat → Int) (y0 : Nat) (Q : (Nat → Nat → Int) → Prop) : Prop := cw_O L K 0 y0 ∧ hz_rI (z y0 2) ∧ ((¬ z y0 2 = 0 → wp_c0_negate_19 L K z r A y0  Q) ∧ (z y0 2 = 0 → hz_rI (z y0 1) ∧ ((z y0 1 ≤ 0 → wp_c0_negate_19 L K z r A y0  Q) ∧ (¬ (z y0 1 ≤ 0) → wp_c0_negate_20 L K z r A 1 y0  Q))))
set_option maxHeartbeats 4000000 in
set_option maxRecDepth 100000 in
theorem k_c0_negate (l : Launch) (D : va_G) (sz : Nat) (C : Nat → ClassId) (L : List Nat) (K : Nat → cw_K) (z : Nat → Nat → Int) (r : Nat → Nat → Nat) (A : Nat → Nat → Int) (y0 : Nat) (Q : (Nat → Nat → Int) → Prop) (hw : wp_c0_negate L K z r A y0 Q) : Met l yX0_negate wsX0_negate ({ frames := 0, cells := 0, slots := 0, locals := 0 } : Room) (va_Pc [.ref y0] (hm_P D (cw_w C L K z r A) (cw_t C) sz)) (va_Qv (S := Int × (Nat → Nat → Int) × (Nat → Nat → Nat) × (Nat → Nat → Int)) (fun u => Q u.2.1) (fun u t => hm_B D (va_A (cw_w C L K z r A) sz) (cw_w C L K u.2.1 r A) (cw_t C) t) (va_A (cw_w C L K z r A) sz)) 0 0 (va_A (cw_w C L K z r A) sz) := by
  refine Met.ofW (cc := cX0_negate) (maxL := 1) (ret := none) (by decide) rfl ?_
  intro p e s m args below meth c s₁ B hml hv
  obtain ⟨rfl, hsz, hP, hK, hD0, hE⟩ := hv
  have hx := B.exec
  have hb := B.bytes
  have hr := B.returns
  have hts := atoms_spec (ws := wsX0_negate) B.pre
  have hown : s.vm.findClass RX0 = some m.cls := findClass_of_methodNamed B.named
  have hlocks := B.notSynchronized
  have hin0 : ∀ w ∈ u_ws RX0 TX0 3, w ∈ wsX0_negate := fun w h => List.mem_cons_of_mem _ (List.mem_append_right _ (h))
  subst hsz
  have hD := hD0.self (sz := s.heap.size)
  generalize hAe : va_A (cw_w C L K z r A) s.heap.size = Ad at hD ⊢
  have hA : ∀ q : Nat, s.heap.size ≤ q → Ad q := fun q h => by rw [← hAe]; exact Or.inr h
  have hS : va_S Ad s.heap s.heap [] := va_S.rf
  have hl := lv_entry ([.ref y0]) (n := 1) (Nat.le_of_ble_eq_true rfl)
  rw [lg_entry_eq]
  generalize (lg_sl ([.ref y0]) ++ List.replicate (1 - (lg_sl ([.ref y0])).length) Slot.unset).toArray = ls at hl ⊢
  have hl : lv_has ls 1 [(0, .ref y0)] := hl
  refine mw_Q (fun QQ hQQ => ?_)
  have hP0 := hP; have hD0 := hD; have hS0 := hS; have hl0 := hl; have hw0 := hw
  clear hP hD hS hl hw
  have L20 : ∀ (z : Nat → Nat → Int) (t0 : Int) (t1 : Nat), wp_c0_negate_20 L K z r A t0 t1  Q → ∀ (H : Heap) (locs : List Loc) (ls : Array Slot), va_P D vwCl (cw_w C L K z r A) H → va_D Ad (cw_w C L K z r A) → va_S Ad s.heap H locs → lv_has ls 1 [] → W p l e (headSpec wsX0_negate ({ frames := 0, cells := 0, slots := 0, locals := 0 } : Room)).room s m (List.toArray [.ref y0]) below meth c H locs 0 0 QQ (F0 m 20 ls [.int (hz_i t0), .ref t1]) := by
    intro z t0 t1 hw H locs ls hP hD hS hl
    obtain ⟨hO_1, hw⟩ := hw
    obtain ⟨h9z, hw⟩ := hw
    refine cw_putz (ci := 0) (ty := .boolean) (v := .int (hz_i t0)) (x := t0) hx hb hts hin0 tyX0 tyX0_ok nmX0 hown hK hP hD hS hO_1.1 hO_1.2 rfl 2 (by decide) (hts (.fieldLink RX0 13 "HiddenMoves$Big" "below" "Z") (List.mem_cons_of_mem _ (List.mem_append_left _ (List.mem_of_getElem? (i := 0) rfl)))) (fun _ h9 => h9) rfl (by decide +kernel) (hz_tZ h9z) (hz_fZ h9z) (Nat.le_of_ble_eq_true rfl) (cw_z0_2 _ _ _) dX0_negate_20 (fun H locs hP hD hS => ?_)
    obtain ⟨z_2, hz_2⟩ : ∃ y : Nat → Nat → Int, y = cw_s z t1 2 t0 := ⟨_, rfl⟩
    rw [← hz_2] at hP hD
    have hw := hw z_2 hz_2
    subst hQQ
    subst hAe
    exact W.vret hx hb hr (fun t ht hW => ⟨⟨(0, z_2, r, A), rfl, hw, by rw [ht]; exact hP, va_K.moved hW.alike hK, hD⟩, hS.F ht⟩) hS.2.2 dX0_negate_23
  have L19 : ∀ (z : Nat → Nat → Int) (t0 : Nat), wp_c0_negate_19 L K z r A t0  Q → ∀ (H : Heap) (locs : List Loc) (ls : Array Slot), va_P D vwCl (cw_w C L K z r A) H → va_D Ad (cw_w C L K z r A) → va_S Ad s.heap H locs → lv_has ls 1 [] → W p l e (headSpec wsX0_negate ({ frames := 0, cells := 0, slots := 0, locals := 0 } : Room)).room s m (List.toArray [.ref y0]) below meth c H locs 0 0 QQ (F0 m 19 ls [.ref t0]) := by
    intro z t0 hw H locs ls hP hD hS hl
    refine lv_iconst (v := hz_i 0) hx hb dX0_negate_19 (by decide +kernel) ?_
    exact L20 z 0 t0 hw H locs ls hP hD hS (lv_sub hl [] rfl)
  have hP := hP0; have hD := hD0; have hS := hS0; have hl := hl0; have hw := hw0
  obtain ⟨H, hH⟩ : ∃ H : Heap, H = s.heap := ⟨_, rfl⟩
  obtain ⟨locs, hlocs⟩ : ∃ L : List Loc, L = [] := ⟨_, rfl⟩
  rw [← hH] at hP
  have hS : va_S Ad s.heap H locs := by rw [hH, hlocs]; exact hS
  refine mw_HL hH hlocs ?_
  refine lv_aload_n hx hb dX0_negate_0 rfl (lv_at hl 0 rfl) ?_
  refine lv_aload_n hx hb dX0_negate_1 rfl (lv_at hl 0 rfl) ?_
  obtain ⟨hO_3, hw⟩ := hw
  refine cw_get (ci := 0) (v := .int (hz_i (z y0 2))) hx hb hts hin0 hown hK hP hO_3.1 hO_3.2 rfl 2 (by decide) (hts (.fieldLink RX0 13 "HiddenMoves$Big" "below" "Z") (List.mem_cons_of_mem _ (List.mem_append_left _ (List.mem_of_getElem? (i := 0) rfl)))) (fun _ h9 => h9) rfl dX0_negate_2 ?_
  obtain ⟨h9a, hw⟩ := hw
  refine hz_if_ne (tgt := 19) hx hb dX0_negate_5 (by decide) h9a (fun c_4 => ?_) (fun c_4 => ?_)
  · have hw := hw.1 c_4
    exact L19 z y0 hw H locs ls hP hD hS (lv_sub hl [] rfl)
  · have hw := hw.2 c_4
    refine lv_aload_n hx hb dX0_negate_8 rfl (lv_at hl 0 rfl) ?_
    refine cw_get (ci := 0) (v := .int (hz_i (z y0 1))) hx hb hts hin0 hown hK hP hO_3.1 hO_3.2 rfl 1 (by decide) (hts (.fieldLink RX0 7 "HiddenMoves$Big" "length" "I") (List.mem_cons_of_mem _ (List.mem_append_left _ (List.mem_of_getElem? (i := 1) rfl)))) (fun _ h9 => h9) rfl dX0_negate_9 ?_
    obtain ⟨h9a, hw⟩ := hw
    refine hz_if_le (tgt := 19) hx hb dX0_negate_12 (by decide) h9a (fun c_5 => ?_) (fun c_5 => ?_)
    · have hw := hw.1 c_5
      exact L19 z y0 hw H locs ls hP hD hS (lv_sub hl [] rfl)
    · have hw := hw.2 c_5
      refine lv_iconst (v := hz_i 1) hx hb dX0_negate_15 (by decide +kernel) ?_
      refine lv_goto (tgt := 20) hx hb dX0_negate_16 (by decide) ?_
      exact L20 z 1 y0 hw H locs ls hP hD hS (lv_sub hl [] rfl)

noncomputable def wp_c0_sign_21 (L : List Nat) (K : Nat → cw_K) (z : Nat → Nat → Int) (r : Nat → Nat → Nat) (A : Nat → Nat → Int) (t0 : Int) (Q : Int → Prop) : Prop := Q t0
noncomputable def wp_c0_sign (L : List Nat) (K : Nat → cw_K) (z : Nat → Nat → Int) (r : Nat → Nat → Nat) (A : Nat → Nat → Int) (y0 : Nat) (Q : Int → Prop) : Prop := cw_O L K 0 y0 ∧ hz_rI (z y0 1) ∧ ((¬ z y0 1 = 0 → hz_rI (z y0 2) ∧ ((z y0 2 = 0 → wp_c0_sign_21 L K z r A 1  Q) ∧ (¬ (z y0 2 = 0) → wp_c0_sign_21 L K z r A (-1)  Q))) ∧ (z y0 1 = 0 → Q 0))
set_option maxHeartbeats 4000000 in
set_option maxRecDepth 100000 in
theorem k_c0_sign (l : Launch) (D : va_G) (sz : Nat) (C : Nat → ClassId) (L : List Nat) (K : Nat → cw_K) (z : Nat → Nat → Int) (r : Nat → Nat → Nat) (A : Nat → Nat → Int) (y0 : Nat) (Q : Int → Prop) (hw : wp_c0_sign L K z r A y0 Q) : Met l yX0_sign wsX0_sign ({ frames := 0, cells := 0, slots := 0, locals := 0 } : Room) (va_Pc [.ref y0] (hm_P D (cw_w C L K z r A) (cw_t C) sz)) (va_Qi (S := Int × (Nat → Nat → Int) × (Nat → Nat → Nat) × (Nat → Nat → Int)) (fun r u => r = hz_i u.1 ∧ Q u.1) (fun u t => hm_B D (va_A (cw_w C L K z r A) sz) (cw_w C L K z r A) (cw_t C) t) (va_A (cw_w C L K z r A) sz)) 0 0 (va_A (cw_w C L K z r A) sz) := by
  refine Met.ofW (cc := cX0_sign) (maxL := 1) (ret := (some .int)) (by decide) rfl ?_
  intro p e s m args below meth c s₁ B hml hv
  obtain ⟨rfl, hsz, hP, hK, hD0, hE⟩ := hv
  have hx := B.exec
  have hb := B.bytes
  have hr := B.returns
  have hts := atoms_spec (ws := wsX0_sign) B.pre
  have hown : s.vm.findClass RX0 = some m.cls := findClass_of_methodNamed B.named
  have hlocks := B.notSynchronized
  have hin0 : ∀ w ∈ u_ws RX0 TX0 3, w ∈ wsX0_sign := fun w h => List.mem_cons_of_mem _ (List.mem_append_right _ (h))
  subst hsz
  have hD := hD0.self (sz := s.heap.size)
  generalize hAe : va_A (cw_w C L K z r A) s.heap.size = Ad at hD ⊢
  have hA : ∀ q : Nat, s.heap.size ≤ q → Ad q := fun q h => by rw [← hAe]; exact Or.inr h
  have hS : va_S Ad s.heap s.heap [] := va_S.rf
  have hl := lv_entry ([.ref y0]) (n := 1) (Nat.le_of_ble_eq_true rfl)
  rw [lg_entry_eq]
  generalize (lg_sl ([.ref y0]) ++ List.replicate (1 - (lg_sl ([.ref y0])).length) Slot.unset).toArray = ls at hl ⊢
  have hl : lv_has ls 1 [(0, .ref y0)] := hl
  refine mw_Q (fun QQ hQQ => ?_)
  have hP0 := hP; have hD0 := hD; have hS0 := hS; have hl0 := hl; have hw0 := hw
  clear hP hD hS hl hw
  have L21 : ∀ (t0 : Int), wp_c0_sign_21 L K z r A t0  Q → ∀ (H : Heap) (locs : List Loc) (ls : Array Slot), va_P D vwCl (cw_w C L K z r A) H → va_D Ad (cw_w C L K z r A) → va_S Ad s.heap H locs → lv_has ls 1 [] → W p l e (headSpec wsX0_sign ({ frames := 0, cells := 0, slots := 0, locals := 0 } : Room)).room s m (List.toArray [.ref y0]) below meth c H locs 0 0 QQ (F0 m 21 ls [.int (hz_i t0)]) := by
    intro t0 hw H locs ls hP hD hS hl
    subst hQQ
    subst hAe
    exact W.iret (v := hz_i t0) hx hb hr (fun t ht hW => ⟨⟨hz_i t0, (t0, z, r, A), rfl, ⟨rfl, hw⟩, by rw [ht]; exact hP, va_K.moved hW.alike hK, hD⟩, hS.F ht⟩) hS.2.2 dX0_sign_21
  have hP := hP0; have hD := hD0; have hS := hS0; have hl := hl0; have hw := hw0
  obtain ⟨H, hH⟩ : ∃ H : Heap, H = s.heap := ⟨_, rfl⟩
  obtain ⟨locs, hlocs⟩ : ∃ L : List Loc, L = [] := ⟨_, rfl⟩
  rw [← hH] at hP
  have hS : va_S Ad s.heap H locs := by rw [hH, hlocs]; exact hS
  refine mw_HL hH hlocs ?_
  refine lv_aload_n hx hb dX0_sign_0 rfl (lv_at hl 0 rfl) ?_
  obtain ⟨hO_1, hw⟩ := hw
  refine cw_get (ci := 0) (v := .int (hz_i (z y0 1))) hx hb hts hin0 hown hK hP hO_1.1 hO_1.2 rfl 1 (by decide) (hts (.fieldLink RX0 7 "HiddenMoves$Big" "length" "I") (List.mem_cons_of_mem _ (List.mem_append_left _ (List.mem_of_getElem? (i := 0) rfl)))) (fun _ h9 => h9) rfl dX0_sign_1 ?_
  obtain ⟨h9a, hw⟩ := hw
  refine hz_if_ne (tgt := 9) hx hb dX0_sign_4 (by decide) h9a (fun c_2 => ?_) (fun c_2 => ?_)
  · have hw := hw.1 c_2
    refine lv_aload_n hx hb dX0_sign_9 rfl (lv_at hl 0 rfl) ?_
    refine cw_get (ci := 0) (v := .int (hz_i (z y0 2))) hx hb hts hin0 hown hK hP hO_1.1 hO_1.2 rfl 2 (by decide) (hts (.fieldLink RX0 13 "HiddenMoves$Big" "below" "Z") (List.mem_cons_of_mem _ (List.mem_append_left _ (List.mem_of_getElem? (i := 1) rfl)))) (fun _ h9 => h9) rfl dX0_sign_10 ?_
    obtain ⟨h9a, hw⟩ := hw
    refine hz_if_eq (tgt := 20) hx hb dX0_sign_13 (by decide) h9a (fun c_3 => ?_) (fun c_3 => ?_)
    · have hw := hw.1 c_3
      refine lv_iconst (v := hz_i 1) hx hb dX0_sign_20 (by decide +kernel) ?_
      exact L21 1 hw H locs ls hP hD hS (lv_sub hl [] rfl)
    · have hw := hw.2 c_3
      refine lv_iconst (v := hz_i (-1)) hx hb dX0_sign_16 (by decide +kernel) ?_
      refine lv_goto (tgt := 21) hx hb dX0_sign_17 (by decide) ?_
      exact L21 (-1) hw H locs ls hP hD hS (lv_sub hl [] rfl)
  · have hw := hw.2 c_2
    refine lv_iconst (v := hz_i 0) hx hb dX0_sign_7 (by decide +kernel) ?_
    subst hQQ
    subst hAe
    exact W.iret (v := hz_i 0) hx hb hr (fun t ht hW => ⟨⟨hz_i 0, (0, z, r, A), rfl, ⟨rfl, hw⟩, by rw [ht]; exact hP, va_K.moved hW.alike hK, hD⟩, hS.F ht⟩) hS.2.2 dX0_sign_8

noncomputable def wp_c0_orderOfSizes_73 (L : List Nat) (K : Nat → cw_K) (z : Nat → Nat → Int) (r : Nat → Nat → Nat) (A : Nat → Nat → Int) (t0 : Int) (Q : Int → Prop) : Prop := Q t0
noncomputable def wp_c0_orderOfSizes_35 (L : List Nat) (K : Nat → cw_K) (z : Nat → Nat → Int) (r : Nat → Nat → Nat) (A : Nat → Nat → Int) (y0 : Nat) (y1 : Nat) (x2 : Int) (Q : Int → Prop) : Prop := ∀ P35 : Int → Prop, (∀ (x2 : Int), hz_rI x2 ∧ ((x2 < 0 → Q 0) ∧ (¬ (x2 < 0) → cw_O L K 0 y0 ∧ cw_A L K 0 (r y0 0) ∧ ((0 : Int) ≤ x2 ∧ x2 < (cw_n K (r y0 0) : Int)) ∧ cw_O L K 0 y1 ∧ cw_A L K 0 (r y1 0) ∧ ((0 : Int) ≤ x2 ∧ x2 < (cw_n K (r y1 0) : Int)) ∧ hz_rI (A (r y0 0) (x2.toNat)) ∧ hz_rI (A (r y1 0) (x2.toNat)) ∧ ((A (r y0 0) (x2.toNat) = A (r y1 0) (x2.toNat) → ∀ x2_7 : Int, x2_7 = x2 + (-1) → P35 x2_7) ∧ (¬ (A (r y0 0) (x2.toNat) = A (r y1 0) (x2.toNat)) → wp_c0_digit L K z r A y0 x2 (fun rv_8 => wp_c0_digit L K z r A y1 x2 (fun rv_9 => hz_rL rv_8 ∧ hz_rL rv_9 ∧ ((rv_9 ≤ rv_8 → wp_c0_orderOfSizes_73 L K z r A 1  Q) ∧ (¬ (rv_9 ≤ rv_8) → wp_c0_orderOfSizes_73 L K z r A (-1)  Q)))))))) → P35 x2) → P35 x2
noncomputable def wp_c0_orderOfSizes_27 (L : List Nat) (K : Nat → cw_K) (z : Nat → Nat → Int) (r : Nat → Nat → Nat) (A : Nat → Nat → Int) (t0 : Int) (Q : Int → Prop) : Prop := Q t0
noncomputable def wp_c0_orderOfSizes (L : List Nat) (K : Nat → cw_K) (z : Nat → Nat → Int) (r : Nat → Nat → Nat) (A : Nat → Nat → Int) (y0 : Nat) (y1 : Nat) (Q : Int → Prop) : Prop := cw_O L K 0 y0 ∧ cw_O L K 0 y1 ∧ hz_rI (z y0 1) ∧ hz_rI (z y1 1) ∧ ((z y0 1 = z y1 1 → ∀ x2_14 : Int, x2_14 = (z y0 1) - 1 → wp_c0_orderOfSizes_35 L K z r A y0 y1 x2_14  Q) ∧ (¬ (z y0 1 = z y1 1) → hz_rI (z y0 1) ∧ hz_rI (z y1 1) ∧ ((z y1 1 ≤ z y0 1 → wp_c0_orderOfSizes_27 L K z r A 1  Q) ∧ (¬ (z y1 1 ≤ z y0 1) → wp_c0_orderOfSizes_27 L K z r A (-1)  Q))))
set_option maxHeartbeats 4000000 in
set_option maxRecDepth 100000 in
theorem k_c0_orderOfSizes (l : Launch) (D : va_G) (sz : Nat) (C : Nat → ClassId) (L : List Nat) (K : Nat → cw_K) (z : Nat → Nat → Int) (r : Nat → Nat → Nat) (A : Nat → Nat → Int) (y0 : Nat) (y1 : Nat) (Q : Int → Prop) (hw : wp_c0_orderOfSizes L K z r A y0 y1 Q) : Met l yX0_orderOfSizes wsX0_orderOfSizes ({ frames := 1, cells := 0, slots := 0, locals := 21 } : Room) (va_Pc [.ref y0, .ref y1] (hm_P D (cw_w C L K z r A) (cw_t C) sz)) (va_Qi (S := Int × (Nat → Nat → Int) × (Nat → Nat → Nat) × (Nat → Nat → Int)) (fun r u => r = hz_i u.1 ∧ Q u.1) (fun u t => hm_B D (va_A (cw_w C L K z r A) sz) (cw_w C L K z r A) (cw_t C) t) (va_A (cw_w C L K z r A) sz)) 0 0 (va_A (cw_w C L K z r A) sz) := by
  refine Met.ofW (cc := cX0_orderOfSizes) (maxL := 3) (ret := (some .int)) (by decide) rfl ?_
  intro p e s m args below meth c s₁ B hml hv
  obtain ⟨rfl, hsz, hP, hK, hD0, hE⟩ := hv
  have hx := B.exec
  have hb := B.bytes
  have hr := B.returns
  have hts := atoms_spec (ws := wsX0_orderOfSizes) B.pre
  have hown : s.vm.findClass RX0 = some m.cls := findClass_of_methodNamed B.named
  have hlocks := B.notSynchronized
  have hin0 : ∀ w ∈ u_ws RX0 TX0 3, w ∈ wsX0_orderOfSizes := fun w h => List.mem_cons_of_mem _ (List.mem_append_right _ (h))
  subst hsz
  have hD := hD0.self (sz := s.heap.size)
  generalize hAe : va_A (cw_w C L K z r A) s.heap.size = Ad at hD ⊢
  have hA : ∀ q : Nat, s.heap.size ≤ q → Ad q := fun q h => by rw [← hAe]; exact Or.inr h
  have hS : va_S Ad s.heap s.heap [] := va_S.rf
  have hl := lv_entry ([.ref y0, .ref y1]) (n := 3) (Nat.le_of_ble_eq_true rfl)
  rw [lg_entry_eq]
  generalize (lg_sl ([.ref y0, .ref y1]) ++ List.replicate (3 - (lg_sl ([.ref y0, .ref y1])).length) Slot.unset).toArray = ls at hl ⊢
  have hl : lv_has ls 3 [(0, .ref y0), (1, .ref y1)] := hl
  refine mw_Q (fun QQ hQQ => ?_)
  have hP0 := hP; have hD0 := hD; have hS0 := hS; have hl0 := hl; have hw0 := hw
  clear hP hD hS hl hw
  have L73 : ∀ (t0 : Int), wp_c0_orderOfSizes_73 L K z r A t0  Q → ∀ (H : Heap) (locs : List Loc) (ls : Array Slot), va_P D vwCl (cw_w C L K z r A) H → va_D Ad (cw_w C L K z r A) → va_S Ad s.heap H locs → lv_has ls 3 [] → W p l e (headSpec wsX0_orderOfSizes ({ frames := 1, cells := 0, slots := 0, locals := 21 } : Room)).room s m (List.toArray [.ref y0, .ref y1]) below meth c H locs 0 0 QQ (F0 m 73 ls [.int (hz_i t0)]) := by
    intro t0 hw H locs ls hP hD hS hl
    subst hQQ
    subst hAe
    exact W.iret (v := hz_i t0) hx hb hr (fun t ht hW => ⟨⟨hz_i t0, (t0, z, r, A), rfl, ⟨rfl, hw⟩, by rw [ht]; exact hP, va_K.moved hW.alike hK, hD⟩, hS.F ht⟩) hS.2.2 dX0_orderOfSizes_73
  have L35 : ∀ (x2 : Int), wp_c0_orderOfSizes_35 L K z r A y0 y1 x2  Q → ∀ (H : Heap) (locs : List Loc) (ls : Array Slot), va_P D vwCl (cw_w C L K z r A) H → va_D Ad (cw_w C L K z r A) → va_S Ad s.heap H locs → lv_has ls 3 [(0, .ref y0), (1, .ref y1), (2, .int (hz_i x2))] → W p l e (headSpec wsX0_orderOfSizes ({ frames := 1, cells := 0, slots := 0, locals := 21 } : Room)).room s m (List.toArray [.ref y0, .ref y1]) below meth c H locs 0 0 QQ (F0 m 35 ls []) := by
    intro x2 hw
    obtain ⟨P35, hP35⟩ : ∃ P : Int → Prop, ∀ (x2 : Int), P x2 ↔ (∀ (H : Heap) (locs : List Loc) (ls : Array Slot), va_P D vwCl (cw_w C L K z r A) H → va_D Ad (cw_w C L K z r A) → va_S Ad s.heap H locs → lv_has ls 3 [(0, .ref y0), (1, .ref y1), (2, .int (hz_i x2))] → W p l e (headSpec wsX0_orderOfSizes ({ frames := 1, cells := 0, slots := 0, locals := 21 } : Room)).room s m (List.toArray [.ref y0, .ref y1]) below meth c H locs 0 0 QQ (F0 m 35 ls [])) := ⟨fun (x2 : Int) => ∀ (H : Heap) (locs : List Loc) (ls : Array Slot), va_P D vwCl (cw_w C L K z r A) H → va_D Ad (cw_w C L K z r A) → va_S Ad s.heap H locs → lv_has ls 3 [(0, .ref y0), (1, .ref y1), (2, .int (hz_i x2))] → W p l e (headSpec wsX0_orderOfSizes ({ frames := 1, cells := 0, slots := 0, locals := 21 } : Room)).room s m (List.toArray [.ref y0, .ref y1]) below meth c H locs 0 0 QQ (F0 m 35 ls []), fun _ => Iff.rfl⟩
    refine (hP35 x2).mp (hw P35 ?_)
    intro x2 hw
    refine (hP35 x2).mpr ?_
    intro H locs ls hP hD hS hl
    refine lv_iload_n hx hb dX0_orderOfSizes_35 rfl (lv_at hl 2 rfl) ?_
    obtain ⟨h9a, hw⟩ := hw
    refine hz_if_lt (tgt := 80) hx hb dX0_orderOfSizes_36 (by decide) h9a (fun c_1 => ?_) (fun c_1 => ?_)
    · have hw := hw.1 c_1
      refine lv_iconst (v := hz_i 0) hx hb dX0_orderOfSizes_80 (by decide +kernel) ?_
      subst hQQ
      subst hAe
      exact W.iret (v := hz_i 0) hx hb hr (fun t ht hW => ⟨⟨hz_i 0, (0, z, r, A), rfl, ⟨rfl, hw⟩, by rw [ht]; exact hP, va_K.moved hW.alike hK, hD⟩, hS.F ht⟩) hS.2.2 dX0_orderOfSizes_81
    · have hw := hw.2 c_1
      refine lv_aload_n hx hb dX0_orderOfSizes_39 rfl (lv_at hl 0 rfl) ?_
      obtain ⟨hO_2, hw⟩ := hw
      refine cw_get (ci := 0) (v := .ref (r y0 0)) hx hb hts hin0 hown hK hP hO_2.1 hO_2.2 rfl 0 (by decide) (hts (.fieldLink RX0 17 "HiddenMoves$Big" "digits" "[I") (List.mem_cons_of_mem _ (List.mem_append_left _ (List.mem_of_getElem? (i := 1) rfl)))) (fun _ h9 => h9) rfl dX0_orderOfSizes_40 ?_
      refine lv_iload_n hx hb dX0_orderOfSizes_43 rfl (lv_at hl 2 rfl) ?_
      obtain ⟨hO_3, hw⟩ := hw
      obtain ⟨h9i, hw⟩ := hw
      refine cw_ild hx hb hK hP hO_3.1 hO_3.2.2 h9i hO_3.2.1 dX0_orderOfSizes_44 ?_
      refine lv_aload_n hx hb dX0_orderOfSizes_45 rfl (lv_at hl 1 rfl) ?_
      obtain ⟨hO_4, hw⟩ := hw
      refine cw_get (ci := 0) (v := .ref (r y1 0)) hx hb hts hin0 hown hK hP hO_4.1 hO_4.2 rfl 0 (by decide) (hts (.fieldLink RX0 17 "HiddenMoves$Big" "digits" "[I") (List.mem_cons_of_mem _ (List.mem_append_left _ (List.mem_of_getElem? (i := 1) rfl)))) (fun _ h9 => h9) rfl dX0_orderOfSizes_46 ?_
      refine lv_iload_n hx hb dX0_orderOfSizes_49 rfl (lv_at hl 2 rfl) ?_
      obtain ⟨hO_5, hw⟩ := hw
      obtain ⟨h9i, hw⟩ := hw
      refine cw_ild hx hb hK hP hO_5.1 hO_5.2.2 h9i hO_5.2.1 dX0_orderOfSizes_50 ?_
      obtain ⟨h9a, hw⟩ := hw
      obtain ⟨h9b, hw⟩ := hw
      refine hz_icmp_eq (tgt := 74) hx hb dX0_orderOfSizes_51 (by decide) h9a h9b (fun c_6 => ?_) (fun c_6 => ?_)
      · have hw := hw.1 c_6
        obtain ⟨x2_7, hx2_7⟩ : ∃ y : Int, y = x2 + (-1) := ⟨_, rfl⟩
        have hw := hw x2_7 hx2_7
        refine lv_iinc (v := hz_i x2_7) (lv' := [(2, .int (hz_i x2_7)), (0, .ref y0), (1, .ref y1)]) hx hb dX0_orderOfSizes_74 hl (k := 2) rfl (by rw [hx2_7]; exact hz_i_add _ _) (by decide) rfl (fun ls hl => ?_)
        refine lv_goto (tgt := 35) hx hb dX0_orderOfSizes_77 (by decide) ?_
        exact (hP35 x2_7).mp hw H locs ls hP hD hS (lv_sub hl [1, 2, 0] rfl)
      · have hw := hw.2 c_6
        refine lv_aload_n hx hb dX0_orderOfSizes_54 rfl (lv_at hl 0 rfl) ?_
        refine lv_iload_n hx hb dX0_orderOfSizes_55 rfl (lv_at hl 2 rfl) ?_
        have hFc := cw_free hD hS hA
        obtain ⟨q9, hq9⟩ := cw_at (C := C) (z := z) (r := r) (A := A) hO_2.1 hO_2.2
        refine va_calll (va_runV (As := [.int (hz_i x2)]) (rest := []) ⟨hx, hb, hml, hown, hts⟩ (k_c0_digit l D _ C L K z r A y0 x2 _ hw) (cwV 1 hts gX0_orderOfSizes_X0_digit rfl rfl rfl (by decide +kernel) ⟨Nat.le_of_ble_eq_true rfl, Nat.le_of_ble_eq_true rfl⟩) ⟨hm_blind, va_recv hK hP (ci := 0) (q0 := q9) rfl hq9, hm_pre hP hK hD hE⟩ rfl rfl hl.1 rfl (lv_room (Nat.le_of_ble_eq_true rfl)) dX0_orderOfSizes_56 ⟨Nat.le_of_ble_eq_true rfl, Nat.le_of_ble_eq_true rfl⟩) hS (fun q _ h => hFc q h) hFc (fun rv u t H1 locs ht hvm hw hB hz1 hk1 hS => ?_)
        obtain ⟨rv_8, _, _, _⟩ := u
        obtain ⟨hP, hK1, hD1⟩ := hB
        rw [ht] at hP
        obtain ⟨hrv, hw⟩ := hw
        subst hrv
        have hD := hD1.weaken (fun k q _ h => hFc q.1 h)
        have hP : va_P D vwCl (cw_w C L K z r A) H1 := hP
        have hD : va_D Ad (cw_w C L K z r A) := hD
        generalize H1 = H at hP hS ⊢
        refine W.eq (g2 := F0 m 59 ls [.long (hz_l rv_8)]) rfl ?_
        refine lv_aload_n hx hb dX0_orderOfSizes_59 rfl (lv_at hl 1 rfl) ?_
        refine lv_iload_n hx hb dX0_orderOfSizes_60 rfl (lv_at hl 2 rfl) ?_
        have hFc := cw_free hD hS hA
        obtain ⟨q9, hq9⟩ := cw_at (C := C) (z := z) (r := r) (A := A) hO_4.1 hO_4.2
        refine va_calll (va_runV (As := [.int (hz_i x2)]) (rest := [.long (hz_l rv_8)]) ⟨hx, hb, hml, hown, hts⟩ (k_c0_digit l D _ C L K z r A y1 x2 _ hw) (cwV 1 hts gX0_orderOfSizes_X0_digit rfl rfl rfl (by decide +kernel) ⟨Nat.le_of_ble_eq_true rfl, Nat.le_of_ble_eq_true rfl⟩) ⟨hm_blind, va_recv hK hP (ci := 0) (q0 := q9) rfl hq9, hm_pre hP hK hD hE⟩ rfl rfl hl.1 rfl (lv_room (Nat.le_of_ble_eq_true rfl)) dX0_orderOfSizes_61 ⟨Nat.le_of_ble_eq_true rfl, Nat.le_of_ble_eq_true rfl⟩) hS (fun q _ h => hFc q h) hFc (fun rv u t H1 locs ht hvm hw hB hz1 hk1 hS => ?_)
        obtain ⟨rv_9, _, _, _⟩ := u
        obtain ⟨hP, hK1, hD1⟩ := hB
        rw [ht] at hP
        obtain ⟨hrv, hw⟩ := hw
        subst hrv
        have hD := hD1.weaken (fun k q _ h => hFc q.1 h)
        have hP : va_P D vwCl (cw_w C L K z r A) H1 := hP
        have hD : va_D Ad (cw_w C L K z r A) := hD
        generalize H1 = H at hP hS ⊢
        refine W.eq (g2 := F0 m 64 ls [.long (hz_l rv_9), .long (hz_l rv_8)]) rfl ?_
        obtain ⟨h9a, hw⟩ := hw
        obtain ⟨h9b, hw⟩ := hw
        refine hz_lcmp_ge (tgt := 72) hx hb dX0_orderOfSizes_64 dX0_orderOfSizes_65 (by decide) h9a h9b (fun c_10 => ?_) (fun c_10 => ?_)
        · have hw := hw.1 c_10
          refine lv_iconst (v := hz_i 1) hx hb dX0_orderOfSizes_72 (by decide +kernel) ?_
          exact L73 1 hw H locs ls hP hD hS (lv_sub hl [] rfl)
        · have hw := hw.2 c_10
          refine lv_iconst (v := hz_i (-1)) hx hb dX0_orderOfSizes_68 (by decide +kernel) ?_
          refine lv_goto (tgt := 73) hx hb dX0_orderOfSizes_69 (by decide) ?_
          exact L73 (-1) hw H locs ls hP hD hS (lv_sub hl [] rfl)
  have L27 : ∀ (t0 : Int), wp_c0_orderOfSizes_27 L K z r A t0  Q → ∀ (H : Heap) (locs : List Loc) (ls : Array Slot), va_P D vwCl (cw_w C L K z r A) H → va_D Ad (cw_w C L K z r A) → va_S Ad s.heap H locs → lv_has ls 3 [] → W p l e (headSpec wsX0_orderOfSizes ({ frames := 1, cells := 0, slots := 0, locals := 21 } : Room)).room s m (List.toArray [.ref y0, .ref y1]) below meth c H locs 0 0 QQ (F0 m 27 ls [.int (hz_i t0)]) := by
    intro t0 hw H locs ls hP hD hS hl
    subst hQQ
    subst hAe
    exact W.iret (v := hz_i t0) hx hb hr (fun t ht hW => ⟨⟨hz_i t0, (t0, z, r, A), rfl, ⟨rfl, hw⟩, by rw [ht]; exact hP, va_K.moved hW.alike hK, hD⟩, hS.F ht⟩) hS.2.2 dX0_orderOfSizes_27
  have hP := hP0; have hD := hD0; have hS := hS0; have hl := hl0; have hw := hw0
  obtain ⟨H, hH⟩ : ∃ H : Heap, H = s.heap := ⟨_, rfl⟩
  obtain ⟨locs, hlocs⟩ : ∃ L : List Loc, L = [] := ⟨_, rfl⟩
  rw [← hH] at hP
  have hS : va_S Ad s.heap H locs := by rw [hH, hlocs]; exact hS
  refine mw_HL hH hlocs ?_
  refine lv_aload_n hx hb dX0_orderOfSizes_0 rfl (lv_at hl 0 rfl) ?_
  obtain ⟨hO_11, hw⟩ := hw
  refine cw_get (ci := 0) (v := .int (hz_i (z y0 1))) hx hb hts hin0 hown hK hP hO_11.1 hO_11.2 rfl 1 (by decide) (hts (.fieldLink RX0 7 "HiddenMoves$Big" "length" "I") (List.mem_cons_of_mem _ (List.mem_append_left _ (List.mem_of_getElem? (i := 0) rfl)))) (fun _ h9 => h9) rfl dX0_orderOfSizes_1 ?_
  refine lv_aload_n hx hb dX0_orderOfSizes_4 rfl (lv_at hl 1 rfl) ?_
  obtain ⟨hO_12, hw⟩ := hw
  refine cw_get (ci := 0) (v := .int (hz_i (z y1 1))) hx hb hts hin0 hown hK hP hO_12.1 hO_12.2 rfl 1 (by decide) (hts (.fieldLink RX0 7 "HiddenMoves$Big" "length" "I") (List.mem_cons_of_mem _ (List.mem_append_left _ (List.mem_of_getElem? (i := 0) rfl)))) (fun _ h9 => h9) rfl dX0_orderOfSizes_5 ?_
  obtain ⟨h9a, hw⟩ := hw
  obtain ⟨h9b, hw⟩ := hw
  refine hz_icmp_eq (tgt := 28) hx hb dX0_orderOfSizes_8 (by decide) h9a h9b (fun c_13 => ?_) (fun c_13 => ?_)
  · have hw := hw.1 c_13
    refine lv_aload_n hx hb dX0_orderOfSizes_28 rfl (lv_at hl 0 rfl) ?_
    refine cw_get (ci := 0) (v := .int (hz_i (z y0 1))) hx hb hts hin0 hown hK hP hO_11.1 hO_11.2 rfl 1 (by decide) (hts (.fieldLink RX0 7 "HiddenMoves$Big" "length" "I") (List.mem_cons_of_mem _ (List.mem_append_left _ (List.mem_of_getElem? (i := 0) rfl)))) (fun _ h9 => h9) rfl dX0_orderOfSizes_29 ?_
    refine lv_iconst (v := hz_i 1) hx hb dX0_orderOfSizes_32 (by decide +kernel) ?_
    refine hz_isub hx hb dX0_orderOfSizes_33 ?_
    refine hz_topi (fun x2_14 hx2_14 => ?_)
    have hw := hw x2_14 hx2_14
    refine lv_istore_n (lv' := [(2, .int (hz_i x2_14)), (0, .ref y0), (1, .ref y1)]) hx hb dX0_orderOfSizes_34 rfl hl (by decide) rfl (fun ls hl => ?_)
    exact L35 x2_14 hw H locs ls hP hD hS (lv_sub hl [1, 2, 0] rfl)
  · have hw := hw.2 c_13
    refine lv_aload_n hx hb dX0_orderOfSizes_11 rfl (lv_at hl 0 rfl) ?_
    refine cw_get (ci := 0) (v := .int (hz_i (z y0 1))) hx hb hts hin0 hown hK hP hO_11.1 hO_11.2 rfl 1 (by decide) (hts (.fieldLink RX0 7 "HiddenMoves$Big" "length" "I") (List.mem_cons_of_mem _ (List.mem_append_left _ (List.mem_of_getElem? (i := 0) rfl)))) (fun _ h9 => h9) rfl dX0_orderOfSizes_12 ?_
    refine lv_aload_n hx hb dX0_orderOfSizes_15 rfl (lv_at hl 1 rfl) ?_
    refine cw_get (ci := 0) (v := .int (hz_i (z y1 1))) hx hb hts hin0 hown hK hP hO_12.1 hO_12.2 rfl 1 (by decide) (hts (.fieldLink RX0 7 "HiddenMoves$Big" "length" "I") (List.mem_cons_of_mem _ (List.mem_append_left _ (List.mem_of_getElem? (i := 0) rfl)))) (fun _ h9 => h9) rfl dX0_orderOfSizes_16 ?_
    obtain ⟨h9a, hw⟩ := hw
    obtain ⟨h9b, hw⟩ := hw
    refine hz_icmp_ge (tgt := 26) hx hb dX0_orderOfSizes_19 (by decide) h9a h9b (fun c_15 => ?_) (fun c_15 => ?_)
    · have hw := hw.1 c_15
      refine lv_iconst (v := hz_i 1) hx hb dX0_orderOfSizes_26 (by decide +kernel) ?_
      exact L27 1 hw H locs ls hP hD hS (lv_sub hl [] rfl)
    · have hw := hw.2 c_15
      refine lv_iconst (v := hz_i (-1)) hx hb dX0_orderOfSizes_22 (by decide +kernel) ?_
      refine lv_goto (tgt := 27) hx hb dX0_orderOfSizes_23 (by decide) ?_
      exact L27 (-1) hw H locs ls hP hD hS (lv_sub hl [] rfl)

noncomputable def wp_c0_order_48 (L : List Nat) (K : Nat → cw_K) (z : Nat → Nat → Int) (r : Nat → Nat → Nat) (A : Nat → Nat → Int) (t0 : Int) (Q : Int → Prop) : Prop := Q t0
noncomputable def wp_c0_order_27 (L : List Nat) (K : Nat → cw_K) (z : Nat → Nat → Int) (r : Nat → Nat → Nat) (A : Nat → Nat → Int) (t0 : Int) (Q : Int → Prop) : Prop := Q t0
noncomputable def wp_c0_order (L : List Nat) (K : Nat → cw_K) (z : Nat → Nat → Int) (r : Nat → Nat → Nat) (A : Nat → Nat → Int) (y0 : Nat) (y1 : Nat) (Q : Int → Prop) : Prop := cw_O L K 0 y0 ∧ wp_c0_sign L K z r A y0 (fun rv_1 => cw_O L K 0 y1 ∧ wp_c0_sign L K z r A y1 (fun rv_3 => hz_rI rv_1 ∧ hz_rI rv_3 ∧ ((rv_1 = rv_3 → hz_rI (z y0 2) ∧ ((z y0 2 = 0 → wp_c0_orderOfSizes L K z r A y0 y1 (fun rv_7 => wp_c0_order_48 L K z r A rv_7  Q)) ∧ (¬ (z y0 2 = 0) → wp_c0_orderOfSizes L K z r A y1 y0 (fun rv_8 => wp_c0_order_48 L K z r A rv_8  Q)))) ∧ (¬ (rv_1 = rv_3) → wp_c0_sign L K z r A y0 (fun rv_9 => wp_c0_sign L K z r A y1 (fun rv_10 => hz_rI rv_9 ∧ hz_rI rv_10 ∧ ((rv_10 ≤ rv_9 → wp_c0_order_27 L K z r A 1  Q) ∧ (¬ (rv_10 ≤ rv_9) → wp_c0_order_27 L K z r A (-1)  Q))))))))
set_option maxHeartbeats 4000000 in
set_option maxRecDepth 100000 in
theorem k_c0_order (l : Launch) (D : va_G) (sz : Nat) (C : Nat → ClassId) (L : List Nat) (K : Nat → cw_K) (z : Nat → Nat → Int) (r : Nat → Nat → Nat) (A : Nat → Nat → Int) (y0 : Nat) (y1 : Nat) (Q : Int → Prop) (hw : wp_c0_order L K z r A y0 y1 Q) : Met l yX0_order wsX0_order ({ frames := 2, cells := 0, slots := 0, locals := 43 } : Room) (va_Pc [.ref y0, .ref y1] (hm_P D (cw_w C L K z r A) (cw_t C) sz)) (va_Qi (S := Int × (Nat → Nat → Int) × (Nat → Nat → Nat) × (Nat → Nat → Int)) (fun r u => r = hz_i u.1 ∧ Q u.1) (fun u t => hm_B D (va_A (cw_w C L K z r A) sz) (cw_w C L K z r A) (cw_t C) t) (va_A (cw_w C L K z r A) sz)) 0 0 (va_A (cw_w C L K z r A) sz) := by
  refine Met.ofW (cc := cX0_order) (maxL := 2) (ret := (some .int)) (by decide) rfl ?_
  intro p e s m args below meth c s₁ B hml hv
  obtain ⟨rfl, hsz, hP, hK, hD0, hE⟩ := hv
  have hx := B.exec
  have hb := B.bytes
  have hr := B.returns
  have hts := atoms_spec (ws := wsX0_order) B.pre
  have hown : s.vm.findClass RX0 = some m.cls := findClass_of_methodNamed B.named
  have hlocks := B.notSynchronized
  have hin0 : ∀ w ∈ u_ws RX0 TX0 3, w ∈ wsX0_order := fun w h => List.mem_cons_of_mem _ (List.mem_append_right _ (h))
  subst hsz
  have hD := hD0.self (sz := s.heap.size)
  generalize hAe : va_A (cw_w C L K z r A) s.heap.size = Ad at hD ⊢
  have hA : ∀ q : Nat, s.heap.size ≤ q → Ad q := fun q h => by rw [← hAe]; exact Or.inr h
  have hS : va_S Ad s.heap s.heap [] := va_S.rf
  have hl := lv_entry ([.ref y0, .ref y1]) (n := 2) (Nat.le_of_ble_eq_true rfl)
  rw [lg_entry_eq]
  generalize (lg_sl ([.ref y0, .ref y1]) ++ List.replicate (2 - (lg_sl ([.ref y0, .ref y1])).length) Slot.unset).toArray = ls at hl ⊢
  have hl : lv_has ls 2 [(0, .ref y0), (1, .ref y1)] := hl
  refine mw_Q (fun QQ hQQ => ?_)
  have hP0 := hP; have hD0 := hD; have hS0 := hS; have hl0 := hl; have hw0 := hw
  clear hP hD hS hl hw
  have L48 : ∀ (t0 : Int), wp_c0_order_48 L K z r A t0  Q → ∀ (H : Heap) (locs : List Loc) (ls : Array Slot), va_P D vwCl (cw_w C L K z r A) H → va_D Ad (cw_w C L K z r A) → va_S Ad s.heap H locs → lv_has ls 2 [] → W p l e (headSpec wsX0_order ({ frames := 2, cells := 0, slots := 0, locals := 43 } : Room)).room s m (List.toArray [.ref y0, .ref y1]) below meth c H locs 0 0 QQ (F0 m 48 ls [.int (hz_i t0)]) := by
    intro t0 hw H locs ls hP hD hS hl
    subst hQQ
    subst hAe
    exact W.iret (v := hz_i t0) hx hb hr (fun t ht hW => ⟨⟨hz_i t0, (t0, z, r, A), rfl, ⟨rfl, hw⟩, by rw [ht]; exact hP, va_K.moved hW.alike hK, hD⟩, hS.F ht⟩) hS.2.2 dX0_order_48
  have L27 : ∀ (t0 : Int), wp_c0_order_27 L K z r A t0  Q → ∀ (H : Heap) (locs : List Loc) (ls : Array Slot), va_P D vwCl (cw_w C L K z r A) H → va_D Ad (cw_w C L K z r A) → va_S Ad s.heap H locs → lv_has ls 2 [] → W p l e (headSpec wsX0_order ({ frames := 2, cells := 0, slots := 0, locals := 43 } : Room)).room s m (List.toArray [.ref y0, .ref y1]) below meth c H locs 0 0 QQ (F0 m 27 ls [.int (hz_i t0)]) := by
    intro t0 hw H locs ls hP hD hS hl
    subst hQQ
    subst hAe
    exact W.iret (v := hz_i t0) hx hb hr (fun t ht hW => ⟨⟨hz_i t0, (t0, z, r, A), rfl, ⟨rfl, hw⟩, by rw [ht]; exact hP, va_K.moved hW.alike hK, hD⟩, hS.F ht⟩) hS.2.2 dX0_order_27
  have hP := hP0; have hD := hD0; have hS := hS0; have hl := hl0; have hw := hw0
  obtain ⟨H, hH⟩ : ∃ H : Heap, H = s.heap := ⟨_, rfl⟩
  obtain ⟨locs, hlocs⟩ : ∃ L : List Loc, L = [] := ⟨_, rfl⟩
  rw [← hH] at hP
  have hS : va_S Ad s.heap H locs := by rw [hH, hlocs]; exact hS
  refine mw_HL hH hlocs ?_
  refine lv_aload_n hx hb dX0_order_0 rfl (lv_at hl 0 rfl) ?_
  obtain ⟨hO_2, hw⟩ := hw
  have hFc := cw_free hD hS hA
  obtain ⟨q9, hq9⟩ := cw_at (C := C) (z := z) (r := r) (A := A) hO_2.1 hO_2.2
  refine va_calli (va_runV (As := []) (rest := []) ⟨hx, hb, hml, hown, hts⟩ (k_c0_sign l D _ C L K z r A y0 _ hw) (cwV 0 hts gX0_order_X0_sign rfl rfl rfl (by decide +kernel) ⟨Nat.le_of_ble_eq_true rfl, Nat.le_of_ble_eq_true rfl⟩) ⟨hm_blind, va_recv hK hP (ci := 0) (q0 := q9) rfl hq9, hm_pre hP hK hD hE⟩ rfl rfl hl.1 rfl (lv_room (Nat.le_of_ble_eq_true rfl)) dX0_order_1 ⟨Nat.le_of_ble_eq_true rfl, Nat.le_of_ble_eq_true rfl⟩) hS (fun q _ h => hFc q h) hFc (fun rv u t H1 locs ht hvm hw hB hz1 hk1 hS => ?_)
  obtain ⟨rv_1, _, _, _⟩ := u
  obtain ⟨hP, hK1, hD1⟩ := hB
  rw [ht] at hP
  obtain ⟨hrv, hw⟩ := hw
  subst hrv
  have hD := hD1.weaken (fun k q _ h => hFc q.1 h)
  have hP : va_P D vwCl (cw_w C L K z r A) H1 := hP
  have hD : va_D Ad (cw_w C L K z r A) := hD
  generalize H1 = H at hP hS ⊢
  refine W.eq (g2 := F0 m 4 ls [.int (hz_i rv_1)]) rfl ?_
  refine lv_aload_n hx hb dX0_order_4 rfl (lv_at hl 1 rfl) ?_
  obtain ⟨hO_4, hw⟩ := hw
  have hFc := cw_free hD hS hA
  obtain ⟨q9, hq9⟩ := cw_at (C := C) (z := z) (r := r) (A := A) hO_4.1 hO_4.2
  refine va_calli (va_runV (As := []) (rest := [.int (hz_i rv_1)]) ⟨hx, hb, hml, hown, hts⟩ (k_c0_sign l D _ C L K z r A y1 _ hw) (cwV 0 hts gX0_order_X0_sign rfl rfl rfl (by decide +kernel) ⟨Nat.le_of_ble_eq_true rfl, Nat.le_of_ble_eq_true rfl⟩) ⟨hm_blind, va_recv hK hP (ci := 0) (q0 := q9) rfl hq9, hm_pre hP hK hD hE⟩ rfl rfl hl.1 rfl (lv_room (Nat.le_of_ble_eq_true rfl)) dX0_order_5 ⟨Nat.le_of_ble_eq_true rfl, Nat.le_of_ble_eq_true rfl⟩) hS (fun q _ h => hFc q h) hFc (fun rv u t H1 locs ht hvm hw hB hz1 hk1 hS => ?_)
  obtain ⟨rv_3, _, _, _⟩ := u
  obtain ⟨hP, hK1, hD1⟩ := hB
  rw [ht] at hP
  obtain ⟨hrv, hw⟩ := hw
  subst hrv
  have hD := hD1.weaken (fun k q _ h => hFc q.1 h)
  have hP : va_P D vwCl (cw_w C L K z r A) H1 := hP
  have hD : va_D Ad (cw_w C L K z r A) := hD
  generalize H1 = H at hP hS ⊢
  refine W.eq (g2 := F0 m 8 ls [.int (hz_i rv_3), .int (hz_i rv_1)]) rfl ?_
  obtain ⟨h9a, hw⟩ := hw
  obtain ⟨h9b, hw⟩ := hw
  refine hz_icmp_eq (tgt := 28) hx hb dX0_order_8 (by decide) h9a h9b (fun c_5 => ?_) (fun c_5 => ?_)
  · have hw := hw.1 c_5
    refine lv_aload_n hx hb dX0_order_28 rfl (lv_at hl 0 rfl) ?_
    refine cw_get (ci := 0) (v := .int (hz_i (z y0 2))) hx hb hts hin0 hown hK hP hO_2.1 hO_2.2 rfl 2 (by decide) (hts (.fieldLink RX0 13 "HiddenMoves$Big" "below" "Z") (List.mem_cons_of_mem _ (List.mem_append_left _ (List.mem_of_getElem? (i := 0) rfl)))) (fun _ h9 => h9) rfl dX0_order_29 ?_
    obtain ⟨h9a, hw⟩ := hw
    refine hz_if_eq (tgt := 43) hx hb dX0_order_32 (by decide) h9a (fun c_6 => ?_) (fun c_6 => ?_)
    · have hw := hw.1 c_6
      refine lv_aload_n hx hb dX0_order_43 rfl (lv_at hl 0 rfl) ?_
      refine lv_aload_n hx hb dX0_order_44 rfl (lv_at hl 1 rfl) ?_
      have hFc := cw_free hD hS hA
      obtain ⟨q9, hq9⟩ := cw_at (C := C) (z := z) (r := r) (A := A) hO_2.1 hO_2.2
      refine va_calli (va_runV (As := [.ref y1]) (rest := []) ⟨hx, hb, hml, hown, hts⟩ (k_c0_orderOfSizes l D _ C L K z r A y0 y1 _ hw) (cwV 1 hts gX0_order_X0_orderOfSizes rfl rfl rfl (by decide +kernel) ⟨Nat.le_of_ble_eq_true rfl, Nat.le_of_ble_eq_true rfl⟩) ⟨hm_blind, va_recv hK hP (ci := 0) (q0 := q9) rfl hq9, hm_pre hP hK hD hE⟩ rfl rfl hl.1 rfl (lv_room (Nat.le_of_ble_eq_true rfl)) dX0_order_45 ⟨Nat.le_of_ble_eq_true rfl, Nat.le_of_ble_eq_true rfl⟩) hS (fun q _ h => hFc q h) hFc (fun rv u t H1 locs ht hvm hw hB hz1 hk1 hS => ?_)
      obtain ⟨rv_7, _, _, _⟩ := u
      obtain ⟨hP, hK1, hD1⟩ := hB
      rw [ht] at hP
      obtain ⟨hrv, hw⟩ := hw
      subst hrv
      have hD := hD1.weaken (fun k q _ h => hFc q.1 h)
      have hP : va_P D vwCl (cw_w C L K z r A) H1 := hP
      have hD : va_D Ad (cw_w C L K z r A) := hD
      generalize H1 = H at hP hS ⊢
      refine W.eq (g2 := F0 m 48 ls [.int (hz_i rv_7)]) rfl ?_
      exact L48 rv_7 hw H locs ls hP hD hS (lv_sub hl [] rfl)
    · have hw := hw.2 c_6
      refine lv_aload_n hx hb dX0_order_35 rfl (lv_at hl 1 rfl) ?_
      refine lv_aload_n hx hb dX0_order_36 rfl (lv_at hl 0 rfl) ?_
      have hFc := cw_free hD hS hA
      obtain ⟨q9, hq9⟩ := cw_at (C := C) (z := z) (r := r) (A := A) hO_4.1 hO_4.2
      refine va_calli (va_runV (As := [.ref y0]) (rest := []) ⟨hx, hb, hml, hown, hts⟩ (k_c0_orderOfSizes l D _ C L K z r A y1 y0 _ hw) (cwV 1 hts gX0_order_X0_orderOfSizes rfl rfl rfl (by decide +kernel) ⟨Nat.le_of_ble_eq_true rfl, Nat.le_of_ble_eq_true rfl⟩) ⟨hm_blind, va_recv hK hP (ci := 0) (q0 := q9) rfl hq9, hm_pre hP hK hD hE⟩ rfl rfl hl.1 rfl (lv_room (Nat.le_of_ble_eq_true rfl)) dX0_order_37 ⟨Nat.le_of_ble_eq_true rfl, Nat.le_of_ble_eq_true rfl⟩) hS (fun q _ h => hFc q h) hFc (fun rv u t H1 locs ht hvm hw hB hz1 hk1 hS => ?_)
      obtain ⟨rv_8, _, _, _⟩ := u
      obtain ⟨hP, hK1, hD1⟩ := hB
      rw [ht] at hP
      obtain ⟨hrv, hw⟩ := hw
      subst hrv
      have hD := hD1.weaken (fun k q _ h => hFc q.1 h)
      have hP : va_P D vwCl (cw_w C L K z r A) H1 := hP
      have hD : va_D Ad (cw_w C L K z r A) := hD
      generalize H1 = H at hP hS ⊢
      refine W.eq (g2 := F0 m 40 ls [.int (hz_i rv_8)]) rfl ?_
      refine lv_goto (tgt := 48) hx hb dX0_order_40 (by decide) ?_
      exact L48 rv_8 hw H locs ls hP hD hS (lv_sub hl [] rfl)
  · have hw := hw.2 c_5
    refine lv_aload_n hx hb dX0_order_11 rfl (lv_at hl 0 rfl) ?_
    have hFc := cw_free hD hS hA
    obtain ⟨q9, hq9⟩ := cw_at (C := C) (z := z) (r := r) (A := A) hO_2.1 hO_2.2
    refine va_calli (va_runV (As := []) (rest := []) ⟨hx, hb, hml, hown, hts⟩ (k_c0_sign l D _ C L K z r A y0 _ hw) (cwV 0 hts gX0_order_X0_sign rfl rfl rfl (by decide +kernel) ⟨Nat.le_of_ble_eq_true rfl, Nat.le_of_ble_eq_true rfl⟩) ⟨hm_blind, va_recv hK hP (ci := 0) (q0 := q9) rfl hq9, hm_pre hP hK hD hE⟩ rfl rfl hl.1 rfl (lv_room (Nat.le_of_ble_eq_true rfl)) dX0_order_12 ⟨Nat.le_of_ble_eq_true rfl, Nat.le_of_ble_eq_true rfl⟩) hS (fun q _ h => hFc q h) hFc (fun rv u t H1 locs ht hvm hw hB hz1 hk1 hS => ?_)
    obtain ⟨rv_9, _, _, _⟩ := u
    obtain ⟨hP, hK1, hD1⟩ := hB
    rw [ht] at hP
    obtain ⟨hrv, hw⟩ := hw
    subst hrv
    have hD := hD1.weaken (fun k q _ h => hFc q.1 h)
    have hP : va_P D vwCl (cw_w C L K z r A) H1 := hP
    have hD : va_D Ad (cw_w C L K z r A) := hD
    generalize H1 = H at hP hS ⊢
    refine W.eq (g2 := F0 m 15 ls [.int (hz_i rv_9)]) rfl ?_
    refine lv_aload_n hx hb dX0_order_15 rfl (lv_at hl 1 rfl) ?_
    have hFc := cw_free hD hS hA
    obtain ⟨q9, hq9⟩ := cw_at (C := C) (z := z) (r := r) (A := A) hO_4.1 hO_4.2
    refine va_calli (va_runV (As := []) (rest := [.int (hz_i rv_9)]) ⟨hx, hb, hml, hown, hts⟩ (k_c0_sign l D _ C L K z r A y1 _ hw) (cwV 0 hts gX0_order_X0_sign rfl rfl rfl (by decide +kernel) ⟨Nat.le_of_ble_eq_true rfl, Nat.le_of_ble_eq_true rfl⟩) ⟨hm_blind, va_recv hK hP (ci := 0) (q0 := q9) rfl hq9, hm_pre hP hK hD hE⟩ rfl rfl hl.1 rfl (lv_room (Nat.le_of_ble_eq_true rfl)) dX0_order_16 ⟨Nat.le_of_ble_eq_true rfl, Nat.le_of_ble_eq_true rfl⟩) hS (fun q _ h => hFc q h) hFc (fun rv u t H1 locs ht hvm hw hB hz1 hk1 hS => ?_)
    obtain ⟨rv_10, _, _, _⟩ := u
    obtain ⟨hP, hK1, hD1⟩ := hB
    rw [ht] at hP
    obtain ⟨hrv, hw⟩ := hw
    subst hrv
    have hD := hD1.weaken (fun k q _ h => hFc q.1 h)
    have hP : va_P D vwCl (cw_w C L K z r A) H1 := hP
    have hD : va_D Ad (cw_w C L K z r A) := hD
    generalize H1 = H at hP hS ⊢
    refine W.eq (g2 := F0 m 19 ls [.int (hz_i rv_10), .int (hz_i rv_9)]) rfl ?_
    obtain ⟨h9a, hw⟩ := hw
    obtain ⟨h9b, hw⟩ := hw
    refine hz_icmp_ge (tgt := 26) hx hb dX0_order_19 (by decide) h9a h9b (fun c_11 => ?_) (fun c_11 => ?_)
    · have hw := hw.1 c_11
      refine lv_iconst (v := hz_i 1) hx hb dX0_order_26 (by decide +kernel) ?_
      exact L27 1 hw H locs ls hP hD hS (lv_sub hl [] rfl)
    · have hw := hw.2 c_11
      refine lv_iconst (v := hz_i (-1)) hx hb dX0_order_22 (by decide +kernel) ?_
      refine lv_goto (tgt := 27) hx hb dX0_order_23 (by decide) ?_
      exact L27 (-1) hw H locs ls hP hD hS (lv_sub hl [] rfl)

-- 17.c01
noncomputable def wp_c0_putSum_176 (L : List Nat) (K : Nat → cw_K) (z : Nat → Nat → Int) (r : Nat → Nat → Nat) (A : Nat → Nat → Int) (Q : (Nat → Nat → Int) → (Nat → Nat → Int) → Prop) : Prop := Q z A
noncomputable def wp_c0_putSum_93 (L : List Nat) (K : Nat → cw_K) (z : Nat → Nat → Int) (r : Nat → Nat → Nat) (A : Nat → Nat → Int) (y0 : Nat) (y1 : Nat) (x3 : Int) (x5 : Int) (x7 : Int) (Q : (Nat → Nat → Int) → (Nat → Nat → Int) → Prop) : Prop := ∀ P93 : (Nat → Nat → Int) → Int → Int → Prop, (∀ (A : Nat → Nat → Int) (x5 : Int) (x7 : Int), hz_rI x7 ∧ hz_rI x3 ∧ ((x3 ≤ x7 → cw_O L K 0 y0 ∧ ∀ z_3 : Nat → Nat → Int, z_3 = cw_s z y0 1 x3 → hz_rL x5 ∧ ((x5 = 0 → wp_c0_putSum_176 L K z_3 r A  Q) ∧ (¬ (x5 = 0) → cw_A L K 0 (r y0 0) ∧ hz_rI x3 ∧ hz_rI (cw_n K (r y0 0) : Int) ∧ (((cw_n K (r y0 0) : Int) ≤ x3 → wp_c0_putSum_176 L K z_3 r A  Q) ∧ (¬ ((cw_n K (r y0 0) : Int) ≤ x3) → ∀ x9_7 : Int, hz_rI x9_7 → x9_7 % 4294967296 = x5 % 4294967296 → ((0 : Int) ≤ x3 ∧ x3 < (cw_n K (r y0 0) : Int)) ∧ ∀ A_8 : Nat → Nat → Int, A_8 = hz_s A (r y0 0) x3 x9_7 → ∀ z_9 : Nat → Nat → Int, z_9 = cw_s z_3 y0 1 (x3 + 1) → wp_c0_putSum_176 L K z_9 r A_8  Q))))) ∧ (¬ (x3 ≤ x7) → cw_O L K 0 y1 ∧ cw_A L K 0 (r y1 0) ∧ ((0 : Int) ≤ x7 ∧ x7 < (cw_n K (r y1 0) : Int)) ∧ hz_rI (A (r y1 0) (x7.toNat)) ∧ ∀ x9_12 : Int, x9_12 = (A (r y1 0) (x7.toNat)) % 4294967296 → ∀ x5_13 : Int, x5_13 = x5 + x9_12 → cw_O L K 0 y0 ∧ ∀ x9_15 : Int, hz_rI x9_15 → x9_15 % 4294967296 = x5_13 % 4294967296 → cw_A L K 0 (r y0 0) ∧ ((0 : Int) ≤ x7 ∧ x7 < (cw_n K (r y0 0) : Int)) ∧ ∀ A_17 : Nat → Nat → Int, A_17 = hz_s A (r y0 0) x7 x9_15 → ∀ x9_18 : Int, x9_18 = x5_13 % 18446744073709551616 / 4294967296 → ∀ x7_19 : Int, x7_19 = x7 + 1 → P93 A_17 x9_18 x7_19)) → P93 A x5 x7) → P93 A x5 x7
noncomputable def wp_c0_putSum_29 (L : List Nat) (K : Nat → cw_K) (z : Nat → Nat → Int) (r : Nat → Nat → Nat) (A : Nat → Nat → Int) (y0 : Nat) (y1 : Nat) (y2 : Nat) (x3 : Int) (x4 : Int) (x5 : Int) (x7 : Int) (Q : (Nat → Nat → Int) → (Nat → Nat → Int) → Prop) : Prop := ∀ P29 : (Nat → Nat → Int) → Int → Int → Prop, (∀ (A : Nat → Nat → Int) (x5 : Int) (x7 : Int), hz_rI x7 ∧ hz_rI x4 ∧ ((x4 ≤ x7 → wp_c0_putSum_93 L K z r A y0 y1 x3 x5 x4  Q) ∧ (¬ (x4 ≤ x7) → cw_O L K 0 y1 ∧ cw_A L K 0 (r y1 0) ∧ ((0 : Int) ≤ x7 ∧ x7 < (cw_n K (r y1 0) : Int)) ∧ hz_rI (A (r y1 0) (x7.toNat)) ∧ ∀ x9_23 : Int, x9_23 = (A (r y1 0) (x7.toNat)) % 4294967296 → cw_O L K 0 y2 ∧ cw_A L K 0 (r y2 0) ∧ ((0 : Int) ≤ x7 ∧ x7 < (cw_n K (r y2 0) : Int)) ∧ hz_rI (A (r y2 0) (x7.toNat)) ∧ ∀ x9_26 : Int, x9_26 = (A (r y2 0) (x7.toNat)) % 4294967296 → ∀ x5_27 : Int, x5_27 = x5 + (x9_23 + x9_26) → cw_O L K 0 y0 ∧ ∀ x9_29 : Int, hz_rI x9_29 → x9_29 % 4294967296 = x5_27 % 4294967296 → cw_A L K 0 (r y0 0) ∧ ((0 : Int) ≤ x7 ∧ x7 < (cw_n K (r y0 0) : Int)) ∧ ∀ A_31 : Nat → Nat → Int, A_31 = hz_s A (r y0 0) x7 x9_29 → ∀ x9_32 : Int, x9_32 = x5_27 % 18446744073709551616 / 4294967296 → ∀ x7_33 : Int, x7_33 = x7 + 1 → P29 A_31 x9_32 x7_33)) → P29 A x5 x7) → P29 A x5 x7
noncomputable def wp_c0_putSum (L : List Nat) (K : Nat → cw_K) (z : Nat → Nat → Int) (r : Nat → Nat → Nat) (A : Nat → Nat → Int) (y0 : Nat) (y1 : Nat) (y2 : Nat) (Q : (Nat → Nat → Int) → (Nat → Nat → Int) → Prop) : Prop := cw_O L K 0 y1 ∧ cw_O L K 0 y0 ∧ cw_A L K 0 (r y0 0) ∧ hz_rI (z y1 1) ∧ hz_rI (cw_n K (r y0 0) : Int) ∧ ∀ x9_37 : Int, x9_37 = min (z y1 1) (cw_n K (r y0 0) : Int) → cw_O L K 0 y2 ∧ hz_rI (z y2 1) ∧ hz_rI x9_37 ∧ ∀ x9_39 : Int, x9_39 = min (z y2 1) x9_37 → wp_c0_putSum_29 L K z r A y0 y1 y2 x9_37 x9_39 0 0  Q
set_option maxHeartbeats 4000000 in
set_option maxRecDepth 100000 in
theorem k_c0_putSum (l : Launch) (D : va_G) (sz : Nat) (C : Nat → ClassId) (L : List Nat) (K : Nat → cw_K) (z : Nat → Nat → Int) (r : Nat → Nat → Nat) (A : Nat → Nat → Int) (y0 : Nat) (y1 : Nat) (y2 : Nat) (Q : (Nat → Nat → Int) → (Nat → Nat → Int) → Prop) (hw : wp_c0_putSum L K z r A y0 y1 y2 Q) : Met l yX0_putSum wsX0_putSum ({ frames := 1, cells := 0, slots := 0, locals := 20 } : Room) (va_Pc [.ref y0, .ref y1, .ref y2] (hm_P D (cw_w C L K z r A) (cw_t C) sz)) (va_Qv (S := Int × (Nat → Nat → Int) × (Nat → Nat → Nat) × (Nat → Nat → Int)) (fun u => Q u.2.1 u.2.2.2) (fun u t => hm_B D (va_A (cw_w C L K z r A) sz) (cw_w C L K u.2.1 r u.2.2.2) (cw_t C) t) (va_A (cw_w C L K z r A) sz)) 0 0 (va_A (cw_w C L K z r A) sz) := by
  refine Met.ofW (cc := cX0_putSum) (maxL := 8) (ret := none) (by decide) rfl ?_
  intro p e s m args below meth c s₁ B hml hv
  obtain ⟨rfl, hsz, hP, hK, hD0, hE⟩ := hv
  have hx := B.exec
  have hb := B.bytes
  have hr := B.returns
  have hts := atoms_spec (ws := wsX0_putSum) B.pre
  have hown : s.vm.findClass RX0 = some m.cls := findClass_of_methodNamed B.named
  have hlocks := B.notSynchronized
  have hin0 : ∀ w ∈ u_ws RX0 TX0 3, w ∈ wsX0_putSum := fun w h => List.mem_cons_of_mem _ (List.mem_append_right _ (h))
  subst hsz
  have hD := hD0.self (sz := s.heap.size)
  generalize hAe : va_A (cw_w C L K z r A) s.heap.size = Ad at hD ⊢
  have hA : ∀ q : Nat, s.heap.size ≤ q → Ad q := fun q h => by rw [← hAe]; exact Or.inr h
  have hS : va_S Ad s.heap s.heap [] := va_S.rf
  have hl := lv_entry ([.ref y0, .ref y1, .ref y2]) (n := 8) (Nat.le_of_ble_eq_true rfl)
  rw [lg_entry_eq]
  generalize (lg_sl ([.ref y0, .ref y1, .ref y2]) ++ List.replicate (8 - (lg_sl ([.ref y0, .ref y1, .ref y2])).length) Slot.unset).toArray = ls at hl ⊢
  have hl : lv_has ls 8 [(0, .ref y0), (1, .ref y1), (2, .ref y2)] := hl
  refine mw_Q (fun QQ hQQ => ?_)
  have hP0 := hP; have hD0 := hD; have hS0 := hS; have hl0 := hl; have hw0 := hw
  clear hP hD hS hl hw
  have L176 : ∀ (z : Nat → Nat → Int) (A : Nat → Nat → Int), wp_c0_putSum_176 L K z r A  Q → ∀ (H : Heap) (locs : List Loc) (ls : Array Slot), va_P D vwCl (cw_w C L K z r A) H → va_D Ad (cw_w C L K z r A) → va_S Ad s.heap H locs → lv_has ls 8 [] → W p l e (headSpec wsX0_putSum ({ frames := 1, cells := 0, slots := 0, locals := 20 } : Room)).room s m (List.toArray [.ref y0, .ref y1, .ref y2]) below meth c H locs 0 0 QQ (F0 m 176 ls []) := by
    intro z A hw H locs ls hP hD hS hl
    subst hQQ
    subst hAe
    exact W.vret hx hb hr (fun t ht hW => ⟨⟨(0, z, r, A), rfl, hw, by rw [ht]; exact hP, va_K.moved hW.alike hK, hD⟩, hS.F ht⟩) hS.2.2 dX0_putSum_176
  have L93 : ∀ (z : Nat → Nat → Int) (A : Nat → Nat → Int) (x3 : Int) (x5 : Int) (x7 : Int), wp_c0_putSum_93 L K z r A y0 y1 x3 x5 x7  Q → ∀ (H : Heap) (locs : List Loc) (ls : Array Slot), va_P D vwCl (cw_w C L K z r A) H → va_D Ad (cw_w C L K z r A) → va_S Ad s.heap H locs → lv_has ls 8 [(0, .ref y0), (1, .ref y1), (3, .int (hz_i x3)), (5, .long (hz_l x5)), (7, .int (hz_i x7))] → W p l e (headSpec wsX0_putSum ({ frames := 1, cells := 0, slots := 0, locals := 20 } : Room)).room s m (List.toArray [.ref y0, .ref y1, .ref y2]) below meth c H locs 0 0 QQ (F0 m 93 ls []) := by
    intro z A x3 x5 x7 hw
    obtain ⟨P93, hP93⟩ : ∃ P : (Nat → Nat → Int) → Int → Int → Prop, ∀ (A : Nat → Nat → Int) (x5 : Int) (x7 : Int), P A x5 x7 ↔ (∀ (H : Heap) (locs : List Loc) (ls : Array Slot), va_P D vwCl (cw_w C L K z r A) H → va_D Ad (cw_w C L K z r A) → va_S Ad s.heap H locs → lv_has ls 8 [(0, .ref y0), (1, .ref y1), (3, .int (hz_i x3)), (5, .long (hz_l x5)), (7, .int (hz_i x7))] → W p l e (headSpec wsX0_putSum ({ frames := 1, cells := 0, slots := 0, locals := 20 } : Room)).room s m (List.toArray [.ref y0, .ref y1, .ref y2]) below meth c H locs 0 0 QQ (F0 m 93 ls [])) := ⟨fun (A : Nat → Nat → Int) (x5 : Int) (x7 : Int) => ∀ (H : Heap) (locs : List Loc) (ls : Array Slot), va_P D vwCl (cw_w C L K z r A) H → va_D Ad (cw_w C L K z r A) → va_S Ad s.heap H locs → lv_has ls 8 [(0, .ref y0), (1, .ref y1), (3, .int (hz_i x3)), (5, .long (hz_l x5)), (7, .int (hz_i x7))] → W p l e (headSpec wsX0_putSum ({ frames := 1, cells := 0, slots := 0, locals := 20 } : Room)).room s m (List.toArray [.ref y0, .ref y1, .ref y2]) below meth c H locs 0 0 QQ (F0 m 93 ls []), fun _ _ _ => Iff.rfl⟩
    refine (hP93 A x5 x7).mp (hw P93 ?_)
    intro A x5 x7 hw
    refine (hP93 A x5 x7).mpr ?_
    intro H locs ls hP hD hS hl
    refine lv_iload hx hb dX0_putSum_93 (lv_at hl 4 rfl) ?_
    refine lv_iload_n hx hb dX0_putSum_95 rfl (lv_at hl 2 rfl) ?_
    obtain ⟨h9a, hw⟩ := hw
    obtain ⟨h9b, hw⟩ := hw
    refine hz_icmp_ge (tgt := 139) hx hb dX0_putSum_96 (by decide) h9a h9b (fun c_1 => ?_) (fun c_1 => ?_)
    · have hw := hw.1 c_1
      refine lv_aload_n hx hb dX0_putSum_139 rfl (lv_at hl 0 rfl) ?_
      refine lv_iload_n hx hb dX0_putSum_140 rfl (lv_at hl 2 rfl) ?_
      obtain ⟨hO_2, hw⟩ := hw
      refine cw_putz (ci := 0) (ty := .int) (v := .int (hz_i x3)) (x := x3) hx hb hts hin0 tyX0 tyX0_ok nmX0 hown hK hP hD hS hO_2.1 hO_2.2 rfl 1 (by decide) (hts (.fieldLink RX0 7 "HiddenMoves$Big" "length" "I") (List.mem_cons_of_mem _ (List.mem_append_left _ (List.mem_of_getElem? (i := 0) rfl)))) (fun _ h9 => h9) rfl (by decide +kernel) rfl rfl (Nat.le_of_ble_eq_true rfl) (cw_z0_1 _ _ _) dX0_putSum_141 (fun H locs hP hD hS => ?_)
      obtain ⟨z_3, hz_3⟩ : ∃ y : Nat → Nat → Int, y = cw_s z y0 1 x3 := ⟨_, rfl⟩
      rw [← hz_3] at hP hD
      have hw := hw z_3 hz_3
      refine lv_lload hx hb dX0_putSum_144 (lv_at hl 3 rfl) ?_
      refine lv_lconst (v := hz_l 0) hx hb dX0_putSum_146 (by decide +kernel) ?_
      obtain ⟨h9a, hw⟩ := hw
      refine hz_lcmp_eq (tgt := 176) hx hb dX0_putSum_147 dX0_putSum_148 (by decide) h9a ⟨by decide, by decide⟩ (fun c_4 => ?_) (fun c_4 => ?_)
      · have hw := hw.1 c_4
        exact L176 z_3 A hw H locs ls hP hD hS (lv_sub hl [] rfl)
      · have hw := hw.2 c_4
        refine lv_iload_n hx hb dX0_putSum_151 rfl (lv_at hl 2 rfl) ?_
        refine lv_aload_n hx hb dX0_putSum_152 rfl (lv_at hl 0 rfl) ?_
        refine cw_get (ci := 0) (v := .ref (r y0 0)) hx hb hts hin0 hown hK hP hO_2.1 hO_2.2 rfl 0 (by decide) (hts (.fieldLink RX0 17 "HiddenMoves$Big" "digits" "[I") (List.mem_cons_of_mem _ (List.mem_append_left _ (List.mem_of_getElem? (i := 1) rfl)))) (fun _ h9 => h9) rfl dX0_putSum_153 ?_
        obtain ⟨hO_5, hw⟩ := hw
        refine cw_len hx hb hK hP hO_5.1 hO_5.2.2 rfl dX0_putSum_156 ?_
        obtain ⟨h9a, hw⟩ := hw
        obtain ⟨h9b, hw⟩ := hw
        refine hz_icmp_ge (tgt := 176) hx hb dX0_putSum_157 (by decide) h9a h9b (fun c_6 => ?_) (fun c_6 => ?_)
        · have hw := hw.1 c_6
          exact L176 z_3 A hw H locs ls hP hD hS (lv_sub hl [] rfl)
        · have hw := hw.2 c_6
          refine lv_aload_n hx hb dX0_putSum_160 rfl (lv_at hl 0 rfl) ?_
          refine cw_get (ci := 0) (v := .ref (r y0 0)) hx hb hts hin0 hown hK hP hO_2.1 hO_2.2 rfl 0 (by decide) (hts (.fieldLink RX0 17 "HiddenMoves$Big" "digits" "[I") (List.mem_cons_of_mem _ (List.mem_append_left _ (List.mem_of_getElem? (i := 1) rfl)))) (fun _ h9 => h9) rfl dX0_putSum_161 ?_
          refine lv_iload_n hx hb dX0_putSum_164 rfl (lv_at hl 2 rfl) ?_
          refine lv_lload hx hb dX0_putSum_165 (lv_at hl 3 rfl) ?_
          refine cw_l2i hx hb dX0_putSum_167 (fun x9_7 hx9_7a hx9_7b => ?_)
          have hw := hw x9_7 hx9_7a hx9_7b
          obtain ⟨h9i, hw⟩ := hw
          refine cw_ist (v := x9_7) hx hb hK hP hD hS hO_5.1 hO_5.2.2 h9i hO_5.2.1 dX0_putSum_168 (fun H locs hP hD hS => ?_)
          obtain ⟨A_8, hA_8⟩ : ∃ y : Nat → Nat → Int, y = hz_s A (r y0 0) x3 x9_7 := ⟨_, rfl⟩
          rw [← hA_8] at hP hD
          have hw := hw A_8 hA_8
          refine lv_aload_n hx hb dX0_putSum_169 rfl (lv_at hl 0 rfl) ?_
          refine lv_iload_n hx hb dX0_putSum_170 rfl (lv_at hl 2 rfl) ?_
          refine lv_iconst (v := hz_i 1) hx hb dX0_putSum_171 (by decide +kernel) ?_
          refine hz_iadd hx hb dX0_putSum_172 ?_
          refine cw_putz (ci := 0) (ty := .int) (v := .int (hz_i (x3 + 1))) (x := x3 + 1) hx hb hts hin0 tyX0 tyX0_ok nmX0 hown hK hP hD hS hO_2.1 hO_2.2 rfl 1 (by decide) (hts (.fieldLink RX0 7 "HiddenMoves$Big" "length" "I") (List.mem_cons_of_mem _ (List.mem_append_left _ (List.mem_of_getElem? (i := 0) rfl)))) (fun _ h9 => h9) rfl (by decide +kernel) rfl rfl (Nat.le_of_ble_eq_true rfl) (cw_z0_1 _ _ _) dX0_putSum_173 (fun H locs hP hD hS => ?_)
          obtain ⟨z_9, hz_9⟩ : ∃ y : Nat → Nat → Int, y = cw_s z_3 y0 1 (x3 + 1) := ⟨_, rfl⟩
          rw [← hz_9] at hP hD
          have hw := hw z_9 hz_9
          exact L176 z_9 A_8 hw H locs ls hP hD hS (lv_sub hl [] rfl)
    · have hw := hw.2 c_1
      refine lv_lload hx hb dX0_putSum_99 (lv_at hl 3 rfl) ?_
      refine lv_aload_n hx hb dX0_putSum_101 rfl (lv_at hl 1 rfl) ?_
      obtain ⟨hO_10, hw⟩ := hw
      refine cw_get (ci := 0) (v := .ref (r y1 0)) hx hb hts hin0 hown hK hP hO_10.1 hO_10.2 rfl 0 (by decide) (hts (.fieldLink RX0 17 "HiddenMoves$Big" "digits" "[I") (List.mem_cons_of_mem _ (List.mem_append_left _ (List.mem_of_getElem? (i := 1) rfl)))) (fun _ h9 => h9) rfl dX0_putSum_102 ?_
      refine lv_iload hx hb dX0_putSum_105 (lv_at hl 4 rfl) ?_
      obtain ⟨hO_11, hw⟩ := hw
      obtain ⟨h9i, hw⟩ := hw
      refine cw_ild hx hb hK hP hO_11.1 hO_11.2.2 h9i hO_11.2.1 dX0_putSum_107 ?_
      obtain ⟨h9a, hw⟩ := hw
      refine hz_wi2l hx hb dX0_putSum_108 h9a ?_
      refine lv_ldc2 hx hb hown (hts (.constantLong RX0 33 (4294967295)) (List.mem_cons_of_mem _ (List.mem_append_left _ (List.mem_of_getElem? (i := 6) rfl)))) dX0_putSum_109 ?_
      refine hz_asl (b := 4294967295) (by decide +kernel) ?_
      refine cw_land (P := 4294967296) hx hb 32 dX0_putSum_112 (by decide) (by decide +kernel) (by decide +kernel) (fun x9_12 hx9_12a => ?_)
      have hw := hw x9_12 hx9_12a
      refine hz_ladd hx hb dX0_putSum_113 ?_
      refine hz_topl (fun x5_13 hx5_13 => ?_)
      have hw := hw x5_13 hx5_13
      refine lv_lstore (lv' := [(5, .long (hz_l x5_13)), (0, .ref y0), (1, .ref y1), (3, .int (hz_i x3)), (7, .int (hz_i x7))]) hx hb dX0_putSum_114 hl (by decide) rfl (fun ls hl => ?_)
      refine lv_aload_n hx hb dX0_putSum_116 rfl (lv_at hl 1 rfl) ?_
      obtain ⟨hO_14, hw⟩ := hw
      refine cw_get (ci := 0) (v := .ref (r y0 0)) hx hb hts hin0 hown hK hP hO_14.1 hO_14.2 rfl 0 (by decide) (hts (.fieldLink RX0 17 "HiddenMoves$Big" "digits" "[I") (List.mem_cons_of_mem _ (List.mem_append_left _ (List.mem_of_getElem? (i := 1) rfl)))) (fun _ h9 => h9) rfl dX0_putSum_117 ?_
      refine lv_iload hx hb dX0_putSum_120 (lv_at hl 4 rfl) ?_
      refine lv_lload hx hb dX0_putSum_122 (lv_at hl 0 rfl) ?_
      refine cw_l2i hx hb dX0_putSum_124 (fun x9_15 hx9_15a hx9_15b => ?_)
      have hw := hw x9_15 hx9_15a hx9_15b
      obtain ⟨hO_16, hw⟩ := hw
      obtain ⟨h9i, hw⟩ := hw
      refine cw_ist (v := x9_15) hx hb hK hP hD hS hO_16.1 hO_16.2.2 h9i hO_16.2.1 dX0_putSum_125 (fun H locs hP hD hS => ?_)
      obtain ⟨A_17, hA_17⟩ : ∃ y : Nat → Nat → Int, y = hz_s A (r y0 0) x7 x9_15 := ⟨_, rfl⟩
      rw [← hA_17] at hP hD
      have hw := hw A_17 hA_17
      refine lv_lload hx hb dX0_putSum_126 (lv_at hl 0 rfl) ?_
      refine lv_bipush (v := hz_i 32) hx hb dX0_putSum_128 (by decide +kernel) ?_
      refine cw_lushr (P := 4294967296) (d := 32) hx hb dX0_putSum_130 (by decide +kernel) (by decide +kernel) (by decide +kernel) (fun x9_18 hx9_18a => ?_)
      have hw := hw x9_18 hx9_18a
      refine lv_lstore (lv' := [(5, .long (hz_l x9_18)), (0, .ref y0), (1, .ref y1), (3, .int (hz_i x3)), (7, .int (hz_i x7))]) hx hb dX0_putSum_131 hl (by decide) rfl (fun ls hl => ?_)
      obtain ⟨x7_19, hx7_19⟩ : ∃ y : Int, y = x7 + 1 := ⟨_, rfl⟩
      have hw := hw x7_19 hx7_19
      refine lv_iinc (v := hz_i x7_19) (lv' := [(7, .int (hz_i x7_19)), (5, .long (hz_l x9_18)), (0, .ref y0), (1, .ref y1), (3, .int (hz_i x3))]) hx hb dX0_putSum_133 hl (k := 4) rfl (by rw [hx7_19]; exact hz_i_add _ _) (by decide) rfl (fun ls hl => ?_)
      refine lv_goto (tgt := 93) hx hb dX0_putSum_136 (by decide) ?_
      exact (hP93 A_17 x9_18 x7_19).mp hw H locs ls hP hD hS (lv_sub hl [2, 3, 4, 1, 0] rfl)
  have L29 : ∀ (z : Nat → Nat → Int) (A : Nat → Nat → Int) (x3 : Int) (x4 : Int) (x5 : Int) (x7 : Int), wp_c0_putSum_29 L K z r A y0 y1 y2 x3 x4 x5 x7  Q → ∀ (H : Heap) (locs : List Loc) (ls : Array Slot), va_P D vwCl (cw_w C L K z r A) H → va_D Ad (cw_w C L K z r A) → va_S Ad s.heap H locs → lv_has ls 8 [(0, .ref y0), (1, .ref y1), (2, .ref y2), (3, .int (hz_i x3)), (4, .int (hz_i x4)), (5, .long (hz_l x5)), (7, .int (hz_i x7))] → W p l e (headSpec wsX0_putSum ({ frames := 1, cells := 0, slots := 0, locals := 20 } : Room)).room s m (List.toArray [.ref y0, .ref y1, .ref y2]) below meth c H locs 0 0 QQ (F0 m 29 ls []) := by
    intro z A x3 x4 x5 x7 hw
    obtain ⟨P29, hP29⟩ : ∃ P : (Nat → Nat → Int) → Int → Int → Prop, ∀ (A : Nat → Nat → Int) (x5 : Int) (x7 : Int), P A x5 x7 ↔ (∀ (H : Heap) (locs : List Loc) (ls : Array Slot), va_P D vwCl (cw_w C L K z r A) H → va_D Ad (cw_w C L K z r A) → va_S Ad s.heap H locs → lv_has ls 8 [(0, .ref y0), (1, .ref y1), (2, .ref y2), (3, .int (hz_i x3)), (4, .int (hz_i x4)), (5, .long (hz_l x5)), (7, .int (hz_i x7))] → W p l e (headSpec wsX0_putSum ({ frames := 1, cells := 0, slots := 0, locals := 20 } : Room)).room s m (List.toArray [.ref y0, .ref y1, .ref y2]) below meth c H locs 0 0 QQ (F0 m 29 ls [])) := ⟨fun (A : Nat → Nat → Int) (x5 : Int) (x7 : Int) => ∀ (H : Heap) (locs : List Loc) (ls : Array Slot), va_P D vwCl (cw_w C L K z r A) H → va_D Ad (cw_w C L K z r A) → va_S Ad s.heap H locs → lv_has ls 8 [(0, .ref y0), (1, .ref y1), (2, .ref y2), (3, .int (hz_i x3)), (4, .int (hz_i x4)), (5, .long (hz_l x5)), (7, .int (hz_i x7))] → W p l e (headSpec wsX0_putSum ({ frames := 1, cells := 0, slots := 0, locals := 20 } : Room)).room s m (List.toArray [.ref y0, .ref y1, .ref y2]) below meth c H locs 0 0 QQ (F0 m 29 ls []), fun _ _ _ => Iff.rfl⟩
    refine (hP29 A x5 x7).mp (hw P29 ?_)
    intro A x5 x7 hw
    refine (hP29 A x5 x7).mpr ?_
    intro H locs ls hP hD hS hl
    refine lv_iload hx hb dX0_putSum_29 (lv_at hl 6 rfl) ?_
    refine lv_iload hx hb dX0_putSum_31 (lv_at hl 4 rfl) ?_
    obtain ⟨h9a, hw⟩ := hw
    obtain ⟨h9b, hw⟩ := hw
    refine hz_icmp_ge (tgt := 89) hx hb dX0_putSum_33 (by decide) h9a h9b (fun c_20 => ?_) (fun c_20 => ?_)
    · have hw := hw.1 c_20
      refine lv_iload hx hb dX0_putSum_89 (lv_at hl 4 rfl) ?_
      refine lv_istore (lv' := [(7, .int (hz_i x4)), (0, .ref y0), (1, .ref y1), (2, .ref y2), (3, .int (hz_i x3)), (4, .int (hz_i x4)), (5, .long (hz_l x5))]) hx hb dX0_putSum_91 hl (by decide) rfl (fun ls hl => ?_)
      exact L93 z A x3 x5 x4 hw H locs ls hP hD hS (lv_sub hl [1, 2, 4, 6, 0] rfl)
    · have hw := hw.2 c_20
      refine lv_lload hx hb dX0_putSum_36 (lv_at hl 5 rfl) ?_
      refine lv_aload_n hx hb dX0_putSum_38 rfl (lv_at hl 1 rfl) ?_
      obtain ⟨hO_21, hw⟩ := hw
      refine cw_get (ci := 0) (v := .ref (r y1 0)) hx hb hts hin0 hown hK hP hO_21.1 hO_21.2 rfl 0 (by decide) (hts (.fieldLink RX0 17 "HiddenMoves$Big" "digits" "[I") (List.mem_cons_of_mem _ (List.mem_append_left _ (List.mem_of_getElem? (i := 1) rfl)))) (fun _ h9 => h9) rfl dX0_putSum_39 ?_
      refine lv_iload hx hb dX0_putSum_42 (lv_at hl 6 rfl) ?_
      obtain ⟨hO_22, hw⟩ := hw
      obtain ⟨h9i, hw⟩ := hw
      refine cw_ild hx hb hK hP hO_22.1 hO_22.2.2 h9i hO_22.2.1 dX0_putSum_44 ?_
      obtain ⟨h9a, hw⟩ := hw
      refine hz_wi2l hx hb dX0_putSum_45 h9a ?_
      refine lv_ldc2 hx hb hown (hts (.constantLong RX0 33 (4294967295)) (List.mem_cons_of_mem _ (List.mem_append_left _ (List.mem_of_getElem? (i := 6) rfl)))) dX0_putSum_46 ?_
      refine hz_asl (b := 4294967295) (by decide +kernel) ?_
      refine cw_land (P := 4294967296) hx hb 32 dX0_putSum_49 (by decide) (by decide +kernel) (by decide +kernel) (fun x9_23 hx9_23a => ?_)
      have hw := hw x9_23 hx9_23a
      refine lv_aload_n hx hb dX0_putSum_50 rfl (lv_at hl 2 rfl) ?_
      obtain ⟨hO_24, hw⟩ := hw
      refine cw_get (ci := 0) (v := .ref (r y2 0)) hx hb hts hin0 hown hK hP hO_24.1 hO_24.2 rfl 0 (by decide) (hts (.fieldLink RX0 17 "HiddenMoves$Big" "digits" "[I") (List.mem_cons_of_mem _ (List.mem_append_left _ (List.mem_of_getElem? (i := 1) rfl)))) (fun _ h9 => h9) rfl dX0_putSum_51 ?_
      refine lv_iload hx hb dX0_putSum_54 (lv_at hl 6 rfl) ?_
      obtain ⟨hO_25, hw⟩ := hw
      obtain ⟨h9i, hw⟩ := hw
      refine cw_ild hx hb hK hP hO_25.1 hO_25.2.2 h9i hO_25.2.1 dX0_putSum_56 ?_
      obtain ⟨h9a, hw⟩ := hw
      refine hz_wi2l hx hb dX0_putSum_57 h9a ?_
      refine lv_ldc2 hx hb hown (hts (.constantLong RX0 33 (4294967295)) (List.mem_cons_of_mem _ (List.mem_append_left _ (List.mem_of_getElem? (i := 6) rfl)))) dX0_putSum_58 ?_
      refine hz_asl (b := 4294967295) (by decide +kernel) ?_
      refine cw_land (P := 4294967296) hx hb 32 dX0_putSum_61 (by decide) (by decide +kernel) (by decide +kernel) (fun x9_26 hx9_26a => ?_)
      have hw := hw x9_26 hx9_26a
      refine hz_ladd hx hb dX0_putSum_62 ?_
      refine hz_ladd hx hb dX0_putSum_63 ?_
      refine hz_topl (fun x5_27 hx5_27 => ?_)
      have hw := hw x5_27 hx5_27
      refine lv_lstore (lv' := [(5, .long (hz_l x5_27)), (0, .ref y0), (1, .ref y1), (2, .ref y2), (3, .int (hz_i x3)), (4, .int (hz_i x4)), (7, .int (hz_i x7))]) hx hb dX0_putSum_64 hl (by decide) rfl (fun ls hl => ?_)
      refine lv_aload_n hx hb dX0_putSum_66 rfl (lv_at hl 1 rfl) ?_
      obtain ⟨hO_28, hw⟩ := hw
      refine cw_get (ci := 0) (v := .ref (r y0 0)) hx hb hts hin0 hown hK hP hO_28.1 hO_28.2 rfl 0 (by decide) (hts (.fieldLink RX0 17 "HiddenMoves$Big" "digits" "[I") (List.mem_cons_of_mem _ (List.mem_append_left _ (List.mem_of_getElem? (i := 1) rfl)))) (fun _ h9 => h9) rfl dX0_putSum_67 ?_
      refine lv_iload hx hb dX0_putSum_70 (lv_at hl 6 rfl) ?_
      refine lv_lload hx hb dX0_putSum_72 (lv_at hl 0 rfl) ?_
      refine cw_l2i hx hb dX0_putSum_74 (fun x9_29 hx9_29a hx9_29b => ?_)
      have hw := hw x9_29 hx9_29a hx9_29b
      obtain ⟨hO_30, hw⟩ := hw
      obtain ⟨h9i, hw⟩ := hw
      refine cw_ist (v := x9_29) hx hb hK hP hD hS hO_30.1 hO_30.2.2 h9i hO_30.2.1 dX0_putSum_75 (fun H locs hP hD hS => ?_)
      obtain ⟨A_31, hA_31⟩ : ∃ y : Nat → Nat → Int, y = hz_s A (r y0 0) x7 x9_29 := ⟨_, rfl⟩
      rw [← hA_31] at hP hD
      have hw := hw A_31 hA_31
      refine lv_lload hx hb dX0_putSum_76 (lv_at hl 0 rfl) ?_
      refine lv_bipush (v := hz_i 32) hx hb dX0_putSum_78 (by decide +kernel) ?_
      refine cw_lushr (P := 4294967296) (d := 32) hx hb dX0_putSum_80 (by decide +kernel) (by decide +kernel) (by decide +kernel) (fun x9_32 hx9_32a => ?_)
      have hw := hw x9_32 hx9_32a
      refine lv_lstore (lv' := [(5, .long (hz_l x9_32)), (0, .ref y0), (1, .ref y1), (2, .ref y2), (3, .int (hz_i x3)), (4, .int (hz_i x4)), (7, .int (hz_i x7))]) hx hb dX0_putSum_81 hl (by decide) rfl (fun ls hl => ?_)
      obtain ⟨x7_33, hx7_33⟩ : ∃ y : Int, y = x7 + 1 := ⟨_, rfl⟩
      have hw := hw x7_33 hx7_33
      refine lv_iinc (v := hz_i x7_33) (lv' := [(7, .int (hz_i x7_33)), (5, .long (hz_l x9_32)), (0, .ref y0), (1, .ref y1), (2, .ref y2), (3, .int (hz_i x3)), (4, .int (hz_i x4))]) hx hb dX0_putSum_83 hl (k := 6) rfl (by rw [hx7_33]; exact hz_i_add _ _) (by decide) rfl (fun ls hl => ?_)
      refine lv_goto (tgt := 29) hx hb dX0_putSum_86 (by decide) ?_
      exact (hP29 A_31 x9_32 x7_33).mp hw H locs ls hP hD hS (lv_sub hl [2, 3, 4, 5, 6, 1, 0] rfl)
  have hP := hP0; have hD := hD0; have hS := hS0; have hl := hl0; have hw := hw0
  obtain ⟨H, hH⟩ : ∃ H : Heap, H = s.heap := ⟨_, rfl⟩
  obtain ⟨locs, hlocs⟩ : ∃ L : List Loc, L = [] := ⟨_, rfl⟩
  rw [← hH] at hP
  have hS : va_S Ad s.heap H locs := by rw [hH, hlocs]; exact hS
  refine mw_HL hH hlocs ?_
  refine lv_aload_n hx hb dX0_putSum_0 rfl (lv_at hl 1 rfl) ?_
  obtain ⟨hO_34, hw⟩ := hw
  refine cw_get (ci := 0) (v := .int (hz_i (z y1 1))) hx hb hts hin0 hown hK hP hO_34.1 hO_34.2 rfl 1 (by decide) (hts (.fieldLink RX0 7 "HiddenMoves$Big" "length" "I") (List.mem_cons_of_mem _ (List.mem_append_left _ (List.mem_of_getElem? (i := 0) rfl)))) (fun _ h9 => h9) rfl dX0_putSum_1 ?_
  refine lv_aload_n hx hb dX0_putSum_4 rfl (lv_at hl 0 rfl) ?_
  obtain ⟨hO_35, hw⟩ := hw
  refine cw_get (ci := 0) (v := .ref (r y0 0)) hx hb hts hin0 hown hK hP hO_35.1 hO_35.2 rfl 0 (by decide) (hts (.fieldLink RX0 17 "HiddenMoves$Big" "digits" "[I") (List.mem_cons_of_mem _ (List.mem_append_left _ (List.mem_of_getElem? (i := 1) rfl)))) (fun _ h9 => h9) rfl dX0_putSum_5 ?_
  obtain ⟨hO_36, hw⟩ := hw
  refine cw_len hx hb hK hP hO_36.1 hO_36.2.2 rfl dX0_putSum_8 ?_
  obtain ⟨h9a, hw⟩ := hw
  obtain ⟨h9b, hw⟩ := hw
  refine cw_mmin (x := z y1 1) (y := (cw_n K (r y0 0) : Int)) hx hb (by rw [hml]; exact hl.1.symm) hown (hts (.methodLink RX0 21 Lib.Math.min.name) (List.mem_cons_of_mem _ (List.mem_append_left _ (List.mem_of_getElem? (i := 2) rfl)))) (hts (.static Lib.Math.min.name) (List.mem_cons_of_mem _ (List.mem_append_left _ (List.mem_of_getElem? (i := 3) rfl)))) (hts (.initialized "java/lang/Math") (List.mem_cons_of_mem _ (List.mem_append_left _ (List.mem_of_getElem? (i := 4) rfl)))) (hts (.code Lib.Math.min.name Lib.Math.min.code 2 (some .int)) (List.mem_cons_of_mem _ (List.mem_append_left _ (List.mem_of_getElem? (i := 5) rfl)))) (Nat.le_of_ble_eq_true rfl) (Nat.le_of_ble_eq_true rfl) (Nat.zero_le _) (Nat.zero_le _) dX0_putSum_9 h9a h9b (fun x9_37 hx9_37 => ?_)
  have hw := hw x9_37 hx9_37
  refine lv_istore_n (lv' := [(3, .int (hz_i x9_37)), (0, .ref y0), (1, .ref y1), (2, .ref y2)]) hx hb dX0_putSum_12 rfl hl (by decide) rfl (fun ls hl => ?_)
  refine lv_aload_n hx hb dX0_putSum_13 rfl (lv_at hl 3 rfl) ?_
  obtain ⟨hO_38, hw⟩ := hw
  refine cw_get (ci := 0) (v := .int (hz_i (z y2 1))) hx hb hts hin0 hown hK hP hO_38.1 hO_38.2 rfl 1 (by decide) (hts (.fieldLink RX0 7 "HiddenMoves$Big" "length" "I") (List.mem_cons_of_mem _ (List.mem_append_left _ (List.mem_of_getElem? (i := 0) rfl)))) (fun _ h9 => h9) rfl dX0_putSum_14 ?_
  refine lv_iload_n hx hb dX0_putSum_17 rfl (lv_at hl 0 rfl) ?_
  obtain ⟨h9a, hw⟩ := hw
  obtain ⟨h9b, hw⟩ := hw
  refine cw_mmin (x := z y2 1) (y := x9_37) hx hb (by rw [hml]; exact hl.1.symm) hown (hts (.methodLink RX0 21 Lib.Math.min.name) (List.mem_cons_of_mem _ (List.mem_append_left _ (List.mem_of_getElem? (i := 2) rfl)))) (hts (.static Lib.Math.min.name) (List.mem_cons_of_mem _ (List.mem_append_left _ (List.mem_of_getElem? (i := 3) rfl)))) (hts (.initialized "java/lang/Math") (List.mem_cons_of_mem _ (List.mem_append_left _ (List.mem_of_getElem? (i := 4) rfl)))) (hts (.code Lib.Math.min.name Lib.Math.min.code 2 (some .int)) (List.mem_cons_of_mem _ (List.mem_append_left _ (List.mem_of_getElem? (i := 5) rfl)))) (Nat.le_of_ble_eq_true rfl) (Nat.le_of_ble_eq_true rfl) (Nat.zero_le _) (Nat.zero_le _) dX0_putSum_18 h9a h9b (fun x9_39 hx9_39 => ?_)
  have hw := hw x9_39 hx9_39
  refine lv_istore (lv' := [(4, .int (hz_i x9_39)), (3, .int (hz_i x9_37)), (0, .ref y0), (1, .ref y1), (2, .ref y2)]) hx hb dX0_putSum_21 hl (by decide) rfl (fun ls hl => ?_)
  refine lv_lconst (v := hz_l 0) hx hb dX0_putSum_23 (by decide +kernel) ?_
  refine lv_lstore (lv' := [(5, .long (hz_l 0)), (4, .int (hz_i x9_39)), (3, .int (hz_i x9_37)), (0, .ref y0), (1, .ref y1), (2, .ref y2)]) hx hb dX0_putSum_24 hl (by decide) rfl (fun ls hl => ?_)
  refine lv_iconst (v := hz_i 0) hx hb dX0_putSum_26 (by decide +kernel) ?_
  refine lv_istore (lv' := [(7, .int (hz_i 0)), (5, .long (hz_l 0)), (4, .int (hz_i x9_39)), (3, .int (hz_i x9_37)), (0, .ref y0), (1, .ref y1), (2, .ref y2)]) hx hb dX0_putSum_27 hl (by decide) rfl (fun ls hl => ?_)
  exact L29 z A x9_37 x9_39 0 0 hw H locs ls hP hD hS (lv_sub hl [4, 5, 6, 3, 2, 1, 0] rfl)

noncomputable def wp_c0_putDifference_145 (L : List Nat) (K : Nat → cw_K) (z : Nat → Nat → Int) (r : Nat → Nat → Nat) (A : Nat → Nat → Int) (y0 : Nat) (y1 : Nat) (x3 : Int) (x7 : Int) (t0 : Int) (P100 : (Nat → Nat → Int) → Int → Int → Prop) (Q : (Nat → Nat → Int) → (Nat → Nat → Int) → Prop) : Prop := ∀ x7_1 : Int, x7_1 = x7 + 1 → P100 A t0 x7_1
noncomputable def wp_c0_putDifference_100 (L : List Nat) (K : Nat → cw_K) (z : Nat → Nat → Int) (r : Nat → Nat → Nat) (A : Nat → Nat → Int) (y0 : Nat) (y1 : Nat) (x3 : Int) (x5 : Int) (x7 : Int) (Q : (Nat → Nat → Int) → (Nat → Nat → Int) → Prop) : Prop := ∀ P100 : (Nat → Nat → Int) → Int → Int → Prop, (∀ (A : Nat → Nat → Int) (x5 : Int) (x7 : Int), hz_rI x7 ∧ hz_rI x3 ∧ ((x3 ≤ x7 → cw_O L K 0 y0 ∧ wp_c0_trim L K z r A y0 x3 (fun z_4 => Q z_4 A)) ∧ (¬ (x3 ≤ x7) → cw_O L K 0 y1 ∧ cw_A L K 0 (r y1 0) ∧ ((0 : Int) ≤ x7 ∧ x7 < (cw_n K (r y1 0) : Int)) ∧ hz_rI (A (r y1 0) (x7.toNat)) ∧ ∀ x9_8 : Int, x9_8 = (A (r y1 0) (x7.toNat)) % 4294967296 → ∀ x8_9 : Int, x8_9 = x9_8 - x5 → cw_O L K 0 y0 ∧ ∀ x9_11 : Int, hz_rI x9_11 → x9_11 % 4294967296 = x8_9 % 4294967296 → cw_A L K 0 (r y0 0) ∧ ((0 : Int) ≤ x7 ∧ x7 < (cw_n K (r y0 0) : Int)) ∧ ∀ A_13 : Nat → Nat → Int, A_13 = hz_s A (r y0 0) x7 x9_11 → hz_rL x8_9 ∧ ((0 ≤ x8_9 → wp_c0_putDifference_145 L K z r A_13 y0 y1 x3 x7 0 P100 Q) ∧ (¬ (0 ≤ x8_9) → wp_c0_putDifference_145 L K z r A_13 y0 y1 x3 x7 1 P100 Q)))) → P100 A x5 x7) → P100 A x5 x7
noncomputable def wp_c0_putDifference_88 (L : List Nat) (K : Nat → cw_K) (z : Nat → Nat → Int) (r : Nat → Nat → Nat) (A : Nat → Nat → Int) (y0 : Nat) (y1 : Nat) (y2 : Nat) (x3 : Int) (x4 : Int) (x7 : Int) (t0 : Int) (P29 : (Nat → Nat → Int) → Int → Int → Prop) (Q : (Nat → Nat → Int) → (Nat → Nat → Int) → Prop) : Prop := ∀ x7_15 : Int, x7_15 = x7 + 1 → P29 A t0 x7_15
noncomputable def wp_c0_putDifference_29 (L : List Nat) (K : Nat → cw_K) (z : Nat → Nat → Int) (r : Nat → Nat → Nat) (A : Nat → Nat → Int) (y0 : Nat) (y1 : Nat) (y2 : Nat) (x3 : Int) (x4 : Int) (x5 : Int) (x7 : Int) (Q : (Nat → Nat → Int) → (Nat → Nat → Int) → Prop) : Prop := ∀ P29 : (Nat → Nat → Int) → Int → Int → Prop, (∀ (A : Nat → Nat → Int) (x5 : Int) (x7 : Int), hz_rI x7 ∧ hz_rI x4 ∧ ((x4 ≤ x7 → wp_c0_putDifference_100 L K z r A y0 y1 x3 x5 x4  Q) ∧ (¬ (x4 ≤ x7) → cw_O L K 0 y1 ∧ cw_A L K 0 (r y1 0) ∧ ((0 : Int) ≤ x7 ∧ x7 < (cw_n K (r y1 0) : Int)) ∧ hz_rI (A (r y1 0) (x7.toNat)) ∧ ∀ x9_19 : Int, x9_19 = (A (r y1 0) (x7.toNat)) % 4294967296 → cw_O L K 0 y2 ∧ cw_A L K 0 (r y2 0) ∧ ((0 : Int) ≤ x7 ∧ x7 < (cw_n K (r y2 0) : Int)) ∧ hz_rI (A (r y2 0) (x7.toNat)) ∧ ∀ x9_22 : Int, x9_22 = (A (r y2 0) (x7.toNat)) % 4294967296 → ∀ x8_23 : Int, x8_23 = (x9_19 - x9_22) - x5 → cw_O L K 0 y0 ∧ ∀ x9_25 : Int, hz_rI x9_25 → x9_25 % 4294967296 = x8_23 % 4294967296 → cw_A L K 0 (r y0 0) ∧ ((0 : Int) ≤ x7 ∧ x7 < (cw_n K (r y0 0) : Int)) ∧ ∀ A_27 : Nat → Nat → Int, A_27 = hz_s A (r y0 0) x7 x9_25 → hz_rL x8_23 ∧ ((0 ≤ x8_23 → wp_c0_putDifference_88 L K z r A_27 y0 y1 y2 x3 x4 x7 0 P29 Q) ∧ (¬ (0 ≤ x8_23) → wp_c0_putDifference_88 L K z r A_27 y0 y1 y2 x3 x4 x7 1 P29 Q)))) → P29 A x5 x7) → P29 A x5 x7
noncomputable def wp_c0_putDifference (L : List Nat) (K : Nat → cw_K) (z : Nat → Nat → Int) (r : Nat → Nat → Nat) (A : Nat → Nat → Int) (y0 : Nat) (y1 : Nat) (y2 : Nat) (Q : (Nat → Nat → Int) → (Nat → Nat → Int) → Prop) : Prop := cw_O L K 0 y1 ∧ cw_O L K 0 y0 ∧ cw_A L K 0 (r y0 0) ∧ hz_rI (z y1 1) ∧ hz_rI (cw_n K (r y0 0) : Int) ∧ ∀ x9_32 : Int, x9_32 = min (z y1 1) (cw_n K (r y0 0) : Int) → cw_O L K 0 y2 ∧ hz_rI (z y2 1) ∧ hz_rI x9_32 ∧ ∀ x9_34 : Int, x9_34 = min (z y2 1) x9_32 → wp_c0_putDifference_29 L K z r A y0 y1 y2 x9_32 x9_34 0 0  Q
set_option maxHeartbeats 4000000 in
set_option maxRecDepth 100000 in
theorem k_c0_putDifference (l : Launch) (D : va_G) (sz : Nat) (C : Nat → ClassId) (L : List Nat) (K : Nat → cw_K) (z : Nat → Nat → Int) (r : Nat → Nat → Nat) (A : Nat → Nat → Int) (y0 : Nat) (y1 : Nat) (y2 : Nat) (Q : (Nat → Nat → Int) → (Nat → Nat → Int) → Prop) (hw : wp_c0_putDifference L K z r A y0 y1 y2 Q) : Met l yX0_putDifference wsX0_putDifference ({ frames := 1, cells := 0, slots := 0, locals := 21 } : Room) (va_Pc [.ref y0, .ref y1, .ref y2] (hm_P D (cw_w C L K z r A) (cw_t C) sz)) (va_Qv (S := Int × (Nat → Nat → Int) × (Nat → Nat → Nat) × (Nat → Nat → Int)) (fun u => Q u.2.1 u.2.2.2) (fun u t => hm_B D (va_A (cw_w C L K z r A) sz) (cw_w C L K u.2.1 r u.2.2.2) (cw_t C) t) (va_A (cw_w C L K z r A) sz)) 0 0 (va_A (cw_w C L K z r A) sz) := by
  refine Met.ofW (cc := cX0_putDifference) (maxL := 10) (ret := none) (by decide) rfl ?_
  intro p e s m args below meth c s₁ B hml hv
  obtain ⟨rfl, hsz, hP, hK, hD0, hE⟩ := hv
  have hx := B.exec
  have hb := B.bytes
  have hr := B.returns
  have hts := atoms_spec (ws := wsX0_putDifference) B.pre
  have hown : s.vm.findClass RX0 = some m.cls := findClass_of_methodNamed B.named
  have hlocks := B.notSynchronized
  have hin0 : ∀ w ∈ u_ws RX0 TX0 3, w ∈ wsX0_putDifference := fun w h => List.mem_cons_of_mem _ (List.mem_append_right _ (h))
  subst hsz
  have hD := hD0.self (sz := s.heap.size)
  generalize hAe : va_A (cw_w C L K z r A) s.heap.size = Ad at hD ⊢
  have hA : ∀ q : Nat, s.heap.size ≤ q → Ad q := fun q h => by rw [← hAe]; exact Or.inr h
  have hS : va_S Ad s.heap s.heap [] := va_S.rf
  have hl := lv_entry ([.ref y0, .ref y1, .ref y2]) (n := 10) (Nat.le_of_ble_eq_true rfl)
  rw [lg_entry_eq]
  generalize (lg_sl ([.ref y0, .ref y1, .ref y2]) ++ List.replicate (10 - (lg_sl ([.ref y0, .ref y1, .ref y2])).length) Slot.unset).toArray = ls at hl ⊢
  have hl : lv_has ls 10 [(0, .ref y0), (1, .ref y1), (2, .ref y2)] := hl
  refine mw_Q (fun QQ hQQ => ?_)
  have hP0 := hP; have hD0 := hD; have hS0 := hS; have hl0 := hl; have hw0 := hw
  clear hP hD hS hl hw
  have L100 : ∀ (z : Nat → Nat → Int) (A : Nat → Nat → Int) (x3 : Int) (x5 : Int) (x7 : Int), wp_c0_putDifference_100 L K z r A y0 y1 x3 x5 x7  Q → ∀ (H : Heap) (locs : List Loc) (ls : Array Slot), va_P D vwCl (cw_w C L K z r A) H → va_D Ad (cw_w C L K z r A) → va_S Ad s.heap H locs → lv_has ls 10 [(0, .ref y0), (1, .ref y1), (3, .int (hz_i x3)), (5, .long (hz_l x5)), (7, .int (hz_i x7))] → W p l e (headSpec wsX0_putDifference ({ frames := 1, cells := 0, slots := 0, locals := 21 } : Room)).room s m (List.toArray [.ref y0, .ref y1, .ref y2]) below meth c H locs 0 0 QQ (F0 m 100 ls []) := by
    intro z A x3 x5 x7 hw
    obtain ⟨P100, hP100⟩ : ∃ P : (Nat → Nat → Int) → Int → Int → Prop, ∀ (A : Nat → Nat → Int) (x5 : Int) (x7 : Int), P A x5 x7 ↔ (∀ (H : Heap) (locs : List Loc) (ls : Array Slot), va_P D vwCl (cw_w C L K z r A) H → va_D Ad (cw_w C L K z r A) → va_S Ad s.heap H locs → lv_has ls 10 [(0, .ref y0), (1, .ref y1), (3, .int (hz_i x3)), (5, .long (hz_l x5)), (7, .int (hz_i x7))] → W p l e (headSpec wsX0_putDifference ({ frames := 1, cells := 0, slots := 0, locals := 21 } : Room)).room s m (List.toArray [.ref y0, .ref y1, .ref y2]) below meth c H locs 0 0 QQ (F0 m 100 ls [])) := ⟨fun (A : Nat → Nat → Int) (x5 : Int) (x7 : Int) => ∀ (H : Heap) (locs : List Loc) (ls : Array Slot), va_P D vwCl (cw_w C L K z r A) H → va_D Ad (cw_w C L K z r A) → va_S Ad s.heap H locs → lv_has ls 10 [(0, .ref y0), (1, .ref y1), (3, .int (hz_i x3)), (5, .long (hz_l x5)), (7, .int (hz_i x7))] → W p l e (headSpec wsX0_putDifference ({ frames := 1, cells := 0, slots := 0, locals := 21 } : Room)).room s m (List.toArray [.ref y0, .ref y1, .ref y2]) below meth c H locs 0 0 QQ (F0 m 100 ls []), fun _ _ _ => Iff.rfl⟩
    refine (hP100 A x5 x7).mp (hw P100 ?_)
    intro A x5 x7 hw
    refine (hP100 A x5 x7).mpr ?_
    intro H locs ls hP hD hS hl
    have L145 : ∀ (A : Nat → Nat → Int) (x7 : Int) (t0 : Int), wp_c0_putDifference_145 L K z r A y0 y1 x3 x7 t0 P100 Q → ∀ (H : Heap) (locs : List Loc) (ls : Array Slot), va_P D vwCl (cw_w C L K z r A) H → va_D Ad (cw_w C L K z r A) → va_S Ad s.heap H locs → lv_has ls 10 [(0, .ref y0), (1, .ref y1), (3, .int (hz_i x3)), (7, .int (hz_i x7))] → W p l e (headSpec wsX0_putDifference ({ frames := 1, cells := 0, slots := 0, locals := 21 } : Room)).room s m (List.toArray [.ref y0, .ref y1, .ref y2]) below meth c H locs 0 0 QQ (F0 m 145 ls [.long (hz_l t0)]) := by
      intro A x7 t0 hw H locs ls hP hD hS hl
      refine lv_lstore (lv' := [(5, .long (hz_l t0)), (0, .ref y0), (1, .ref y1), (3, .int (hz_i x3)), (7, .int (hz_i x7))]) hx hb dX0_putDifference_145 hl (by decide) rfl (fun ls hl => ?_)
      obtain ⟨x7_1, hx7_1⟩ : ∃ y : Int, y = x7 + 1 := ⟨_, rfl⟩
      have hw := hw x7_1 hx7_1
      refine lv_iinc (v := hz_i x7_1) (lv' := [(7, .int (hz_i x7_1)), (5, .long (hz_l t0)), (0, .ref y0), (1, .ref y1), (3, .int (hz_i x3))]) hx hb dX0_putDifference_147 hl (k := 4) rfl (by rw [hx7_1]; exact hz_i_add _ _) (by decide) rfl (fun ls hl => ?_)
      refine lv_goto (tgt := 100) hx hb dX0_putDifference_150 (by decide) ?_
      exact (hP100 A t0 x7_1).mp hw H locs ls hP hD hS (lv_sub hl [2, 3, 4, 1, 0] rfl)
    refine lv_iload hx hb dX0_putDifference_100 (lv_at hl 4 rfl) ?_
    refine lv_iload_n hx hb dX0_putDifference_102 rfl (lv_at hl 2 rfl) ?_
    obtain ⟨h9a, hw⟩ := hw
    obtain ⟨h9b, hw⟩ := hw
    refine hz_icmp_ge (tgt := 153) hx hb dX0_putDifference_103 (by decide) h9a h9b (fun c_2 => ?_) (fun c_2 => ?_)
    · have hw := hw.1 c_2
      refine lv_aload_n hx hb dX0_putDifference_153 rfl (lv_at hl 0 rfl) ?_
      refine lv_iload_n hx hb dX0_putDifference_154 rfl (lv_at hl 2 rfl) ?_
      obtain ⟨hO_5, hw⟩ := hw
      have hFc := cw_free hD hS hA
      obtain ⟨q9, hq9⟩ := cw_at (C := C) (z := z) (r := r) (A := A) hO_5.1 hO_5.2
      refine va_callv (va_runV (As := [.int (hz_i x3)]) (rest := []) ⟨hx, hb, hml, hown, hts⟩ (k_c0_trim l D _ C L K z r A y0 x3 _ hw) (cwV 1 hts gX0_putDifference_X0_trim rfl rfl rfl (by decide +kernel) ⟨Nat.le_of_ble_eq_true rfl, Nat.le_of_ble_eq_true rfl⟩) ⟨hm_blind, va_recv hK hP (ci := 0) (q0 := q9) rfl hq9, hm_pre hP hK hD hE⟩ rfl rfl hl.1 rfl (lv_room (Nat.le_of_ble_eq_true rfl)) dX0_putDifference_155 ⟨Nat.le_of_ble_eq_true rfl, Nat.le_of_ble_eq_true rfl⟩) hS (fun q _ h => hFc q h) hFc (fun u t H1 locs ht hvm hw hB hz1 hk1 hS => ?_)
      obtain ⟨rv_3, z_4, _, _⟩ := u
      obtain ⟨hP, hK1, hD1⟩ := hB
      rw [ht] at hP
      have hD := hD1.weaken (fun k q _ h => hFc q.1 h)
      have hP : va_P D vwCl (cw_w C L K z_4 r A) H1 := hP
      have hD : va_D Ad (cw_w C L K z_4 r A) := hD
      generalize H1 = H at hP hS ⊢
      refine W.eq (g2 := F0 m 158 ls []) rfl ?_
      subst hQQ
      subst hAe
      exact W.vret hx hb hr (fun t ht hW => ⟨⟨(0, z_4, r, A), rfl, hw, by rw [ht]; exact hP, va_K.moved hW.alike hK, hD⟩, hS.F ht⟩) hS.2.2 dX0_putDifference_158
    · have hw := hw.2 c_2
      refine lv_aload_n hx hb dX0_putDifference_106 rfl (lv_at hl 1 rfl) ?_
      obtain ⟨hO_6, hw⟩ := hw
      refine cw_get (ci := 0) (v := .ref (r y1 0)) hx hb hts hin0 hown hK hP hO_6.1 hO_6.2 rfl 0 (by decide) (hts (.fieldLink RX0 17 "HiddenMoves$Big" "digits" "[I") (List.mem_cons_of_mem _ (List.mem_append_left _ (List.mem_of_getElem? (i := 1) rfl)))) (fun _ h9 => h9) rfl dX0_putDifference_107 ?_
      refine lv_iload hx hb dX0_putDifference_110 (lv_at hl 4 rfl) ?_
      obtain ⟨hO_7, hw⟩ := hw
      obtain ⟨h9i, hw⟩ := hw
      refine cw_ild hx hb hK hP hO_7.1 hO_7.2.2 h9i hO_7.2.1 dX0_putDifference_112 ?_
      obtain ⟨h9a, hw⟩ := hw
      refine hz_wi2l hx hb dX0_putDifference_113 h9a ?_
      refine lv_ldc2 hx hb hown (hts (.constantLong RX0 33 (4294967295)) (List.mem_cons_of_mem _ (List.mem_append_left _ (List.mem_of_getElem? (i := 6) rfl)))) dX0_putDifference_114 ?_
      refine hz_asl (b := 4294967295) (by decide +kernel) ?_
      refine cw_land (P := 4294967296) hx hb 32 dX0_putDifference_117 (by decide) (by decide +kernel) (by decide +kernel) (fun x9_8 hx9_8a => ?_)
      have hw := hw x9_8 hx9_8a
      refine lv_lload hx hb dX0_putDifference_118 (lv_at hl 3 rfl) ?_
      refine hz_lsub hx hb dX0_putDifference_120 ?_
      refine hz_topl (fun x8_9 hx8_9 => ?_)
      have hw := hw x8_9 hx8_9
      refine lv_lstore (lv' := [(8, .long (hz_l x8_9)), (0, .ref y0), (1, .ref y1), (3, .int (hz_i x3)), (5, .long (hz_l x5)), (7, .int (hz_i x7))]) hx hb dX0_putDifference_121 hl (by decide) rfl (fun ls hl => ?_)
      refine lv_aload_n hx hb dX0_putDifference_123 rfl (lv_at hl 1 rfl) ?_
      obtain ⟨hO_10, hw⟩ := hw
      refine cw_get (ci := 0) (v := .ref (r y0 0)) hx hb hts hin0 hown hK hP hO_10.1 hO_10.2 rfl 0 (by decide) (hts (.fieldLink RX0 17 "HiddenMoves$Big" "digits" "[I") (List.mem_cons_of_mem _ (List.mem_append_left _ (List.mem_of_getElem? (i := 1) rfl)))) (fun _ h9 => h9) rfl dX0_putDifference_124 ?_
      refine lv_iload hx hb dX0_putDifference_127 (lv_at hl 5 rfl) ?_
      refine lv_lload hx hb dX0_putDifference_129 (lv_at hl 0 rfl) ?_
      refine cw_l2i hx hb dX0_putDifference_131 (fun x9_11 hx9_11a hx9_11b => ?_)
      have hw := hw x9_11 hx9_11a hx9_11b
      obtain ⟨hO_12, hw⟩ := hw
      obtain ⟨h9i, hw⟩ := hw
      refine cw_ist (v := x9_11) hx hb hK hP hD hS hO_12.1 hO_12.2.2 h9i hO_12.2.1 dX0_putDifference_132 (fun H locs hP hD hS => ?_)
      obtain ⟨A_13, hA_13⟩ : ∃ y : Nat → Nat → Int, y = hz_s A (r y0 0) x7 x9_11 := ⟨_, rfl⟩
      rw [← hA_13] at hP hD
      have hw := hw A_13 hA_13
      refine lv_lload hx hb dX0_putDifference_133 (lv_at hl 0 rfl) ?_
      refine lv_lconst (v := hz_l 0) hx hb dX0_putDifference_135 (by decide +kernel) ?_
      obtain ⟨h9a, hw⟩ := hw
      refine hz_lcmp_ge (tgt := 144) hx hb dX0_putDifference_136 dX0_putDifference_137 (by decide) h9a ⟨by decide, by decide⟩ (fun c_14 => ?_) (fun c_14 => ?_)
      · have hw := hw.1 c_14
        refine lv_lconst (v := hz_l 0) hx hb dX0_putDifference_144 (by decide +kernel) ?_
        exact L145 A_13 x7 0 hw H locs ls hP hD hS (lv_sub hl [1, 2, 3, 5] rfl)
      · have hw := hw.2 c_14
        refine lv_lconst (v := hz_l 1) hx hb dX0_putDifference_140 (by decide +kernel) ?_
        refine lv_goto (tgt := 145) hx hb dX0_putDifference_141 (by decide) ?_
        exact L145 A_13 x7 1 hw H locs ls hP hD hS (lv_sub hl [1, 2, 3, 5] rfl)
  have L29 : ∀ (z : Nat → Nat → Int) (A : Nat → Nat → Int) (x3 : Int) (x4 : Int) (x5 : Int) (x7 : Int), wp_c0_putDifference_29 L K z r A y0 y1 y2 x3 x4 x5 x7  Q → ∀ (H : Heap) (locs : List Loc) (ls : Array Slot), va_P D vwCl (cw_w C L K z r A) H → va_D Ad (cw_w C L K z r A) → va_S Ad s.heap H locs → lv_has ls 10 [(0, .ref y0), (1, .ref y1), (2, .ref y2), (3, .int (hz_i x3)), (4, .int (hz_i x4)), (5, .long (hz_l x5)), (7, .int (hz_i x7))] → W p l e (headSpec wsX0_putDifference ({ frames := 1, cells := 0, slots := 0, locals := 21 } : Room)).room s m (List.toArray [.ref y0, .ref y1, .ref y2]) below meth c H locs 0 0 QQ (F0 m 29 ls []) := by
    intro z A x3 x4 x5 x7 hw
    obtain ⟨P29, hP29⟩ : ∃ P : (Nat → Nat → Int) → Int → Int → Prop, ∀ (A : Nat → Nat → Int) (x5 : Int) (x7 : Int), P A x5 x7 ↔ (∀ (H : Heap) (locs : List Loc) (ls : Array Slot), va_P D vwCl (cw_w C L K z r A) H → va_D Ad (cw_w C L K z r A) → va_S Ad s.heap H locs → lv_has ls 10 [(0, .ref y0), (1, .ref y1), (2, .ref y2), (3, .int (hz_i x3)), (4, .int (hz_i x4)), (5, .long (hz_l x5)), (7, .int (hz_i x7))] → W p l e (headSpec wsX0_putDifference ({ frames := 1, cells := 0, slots := 0, locals := 21 } : Room)).room s m (List.toArray [.ref y0, .ref y1, .ref y2]) below meth c H locs 0 0 QQ (F0 m 29 ls [])) := ⟨fun (A : Nat → Nat → Int) (x5 : Int) (x7 : Int) => ∀ (H : Heap) (locs : List Loc) (ls : Array Slot), va_P D vwCl (cw_w C L K z r A) H → va_D Ad (cw_w C L K z r A) → va_S Ad s.heap H locs → lv_has ls 10 [(0, .ref y0), (1, .ref y1), (2, .ref y2), (3, .int (hz_i x3)), (4, .int (hz_i x4)), (5, .long (hz_l x5)), (7, .int (hz_i x7))] → W p l e (headSpec wsX0_putDifference ({ frames := 1, cells := 0, slots := 0, locals := 21 } : Room)).room s m (List.toArray [.ref y0, .ref y1, .ref y2]) below meth c H locs 0 0 QQ (F0 m 29 ls []), fun _ _ _ => Iff.rfl⟩
    refine (hP29 A x5 x7).mp (hw P29 ?_)
    intro A x5 x7 hw
    refine (hP29 A x5 x7).mpr ?_
    intro H locs ls hP hD hS hl
    have L88 : ∀ (A : Nat → Nat → Int) (x7 : Int) (t0 : Int), wp_c0_putDifference_88 L K z r A y0 y1 y2 x3 x4 x7 t0 P29 Q → ∀ (H : Heap) (locs : List Loc) (ls : Array Slot), va_P D vwCl (cw_w C L K z r A) H → va_D Ad (cw_w C L K z r A) → va_S Ad s.heap H locs → lv_has ls 10 [(0, .ref y0), (1, .ref y1), (2, .ref y2), (3, .int (hz_i x3)), (4, .int (hz_i x4)), (7, .int (hz_i x7))] → W p l e (headSpec wsX0_putDifference ({ frames := 1, cells := 0, slots := 0, locals := 21 } : Room)).room s m (List.toArray [.ref y0, .ref y1, .ref y2]) below meth c H locs 0 0 QQ (F0 m 88 ls [.long (hz_l t0)]) := by
      intro A x7 t0 hw H locs ls hP hD hS hl
      refine lv_lstore (lv' := [(5, .long (hz_l t0)), (0, .ref y0), (1, .ref y1), (2, .ref y2), (3, .int (hz_i x3)), (4, .int (hz_i x4)), (7, .int (hz_i x7))]) hx hb dX0_putDifference_88 hl (by decide) rfl (fun ls hl => ?_)
      obtain ⟨x7_15, hx7_15⟩ : ∃ y : Int, y = x7 + 1 := ⟨_, rfl⟩
      have hw := hw x7_15 hx7_15
      refine lv_iinc (v := hz_i x7_15) (lv' := [(7, .int (hz_i x7_15)), (5, .long (hz_l t0)), (0, .ref y0), (1, .ref y1), (2, .ref y2), (3, .int (hz_i x3)), (4, .int (hz_i x4))]) hx hb dX0_putDifference_90 hl (k := 6) rfl (by rw [hx7_15]; exact hz_i_add _ _) (by decide) rfl (fun ls hl => ?_)
      refine lv_goto (tgt := 29) hx hb dX0_putDifference_93 (by decide) ?_
      exact (hP29 A t0 x7_15).mp hw H locs ls hP hD hS (lv_sub hl [2, 3, 4, 5, 6, 1, 0] rfl)
    refine lv_iload hx hb dX0_putDifference_29 (lv_at hl 6 rfl) ?_
    refine lv_iload hx hb dX0_putDifference_31 (lv_at hl 4 rfl) ?_
    obtain ⟨h9a, hw⟩ := hw
    obtain ⟨h9b, hw⟩ := hw
    refine hz_icmp_ge (tgt := 96) hx hb dX0_putDifference_33 (by decide) h9a h9b (fun c_16 => ?_) (fun c_16 => ?_)
    · have hw := hw.1 c_16
      refine lv_iload hx hb dX0_putDifference_96 (lv_at hl 4 rfl) ?_
      refine lv_istore (lv' := [(7, .int (hz_i x4)), (0, .ref y0), (1, .ref y1), (2, .ref y2), (3, .int (hz_i x3)), (4, .int (hz_i x4)), (5, .long (hz_l x5))]) hx hb dX0_putDifference_98 hl (by decide) rfl (fun ls hl => ?_)
      exact L100 z A x3 x5 x4 hw H locs ls hP hD hS (lv_sub hl [1, 2, 4, 6, 0] rfl)
    · have hw := hw.2 c_16
      refine lv_aload_n hx hb dX0_putDifference_36 rfl (lv_at hl 1 rfl) ?_
      obtain ⟨hO_17, hw⟩ := hw
      refine cw_get (ci := 0) (v := .ref (r y1 0)) hx hb hts hin0 hown hK hP hO_17.1 hO_17.2 rfl 0 (by decide) (hts (.fieldLink RX0 17 "HiddenMoves$Big" "digits" "[I") (List.mem_cons_of_mem _ (List.mem_append_left _ (List.mem_of_getElem? (i := 1) rfl)))) (fun _ h9 => h9) rfl dX0_putDifference_37 ?_
      refine lv_iload hx hb dX0_putDifference_40 (lv_at hl 6 rfl) ?_
      obtain ⟨hO_18, hw⟩ := hw
      obtain ⟨h9i, hw⟩ := hw
      refine cw_ild hx hb hK hP hO_18.1 hO_18.2.2 h9i hO_18.2.1 dX0_putDifference_42 ?_
      obtain ⟨h9a, hw⟩ := hw
      refine hz_wi2l hx hb dX0_putDifference_43 h9a ?_
      refine lv_ldc2 hx hb hown (hts (.constantLong RX0 33 (4294967295)) (List.mem_cons_of_mem _ (List.mem_append_left _ (List.mem_of_getElem? (i := 6) rfl)))) dX0_putDifference_44 ?_
      refine hz_asl (b := 4294967295) (by decide +kernel) ?_
      refine cw_land (P := 4294967296) hx hb 32 dX0_putDifference_47 (by decide) (by decide +kernel) (by decide +kernel) (fun x9_19 hx9_19a => ?_)
      have hw := hw x9_19 hx9_19a
      refine lv_aload_n hx hb dX0_putDifference_48 rfl (lv_at hl 2 rfl) ?_
      obtain ⟨hO_20, hw⟩ := hw
      refine cw_get (ci := 0) (v := .ref (r y2 0)) hx hb hts hin0 hown hK hP hO_20.1 hO_20.2 rfl 0 (by decide) (hts (.fieldLink RX0 17 "HiddenMoves$Big" "digits" "[I") (List.mem_cons_of_mem _ (List.mem_append_left _ (List.mem_of_getElem? (i := 1) rfl)))) (fun _ h9 => h9) rfl dX0_putDifference_49 ?_
      refine lv_iload hx hb dX0_putDifference_52 (lv_at hl 6 rfl) ?_
      obtain ⟨hO_21, hw⟩ := hw
      obtain ⟨h9i, hw⟩ := hw
      refine cw_ild hx hb hK hP hO_21.1 hO_21.2.2 h9i hO_21.2.1 dX0_putDifference_54 ?_
      obtain ⟨h9a, hw⟩ := hw
      refine hz_wi2l hx hb dX0_putDifference_55 h9a ?_
      refine lv_ldc2 hx hb hown (hts (.constantLong RX0 33 (4294967295)) (List.mem_cons_of_mem _ (List.mem_append_left _ (List.mem_of_getElem? (i := 6) rfl)))) dX0_putDifference_56 ?_
      refine hz_asl (b := 4294967295) (by decide +kernel) ?_
      refine cw_land (P := 4294967296) hx hb 32 dX0_putDifference_59 (by decide) (by decide +kernel) (by decide +kernel) (fun x9_22 hx9_22a => ?_)
      have hw := hw x9_22 hx9_22a
      refine hz_lsub hx hb dX0_putDifference_60 ?_
      refine lv_lload hx hb dX0_putDifference_61 (lv_at hl 5 rfl) ?_
      refine hz_lsub hx hb dX0_putDifference_63 ?_
      refine hz_topl (fun x8_23 hx8_23 => ?_)
      have hw := hw x8_23 hx8_23
      refine lv_lstore (lv' := [(8, .long (hz_l x8_23)), (0, .ref y0), (1, .ref y1), (2, .ref y2), (3, .int (hz_i x3)), (4, .int (hz_i x4)), (5, .long (hz_l x5)), (7, .int (hz_i x7))]) hx hb dX0_putDifference_64 hl (by decide) rfl (fun ls hl => ?_)
      refine lv_aload_n hx hb dX0_putDifference_66 rfl (lv_at hl 1 rfl) ?_
      obtain ⟨hO_24, hw⟩ := hw
      refine cw_get (ci := 0) (v := .ref (r y0 0)) hx hb hts hin0 hown hK hP hO_24.1 hO_24.2 rfl 0 (by decide) (hts (.fieldLink RX0 17 "HiddenMoves$Big" "digits" "[I") (List.mem_cons_of_mem _ (List.mem_append_left _ (List.mem_of_getElem? (i := 1) rfl)))) (fun _ h9 => h9) rfl dX0_putDifference_67 ?_
      refine lv_iload hx hb dX0_putDifference_70 (lv_at hl 7 rfl) ?_
      refine lv_lload hx hb dX0_putDifference_72 (lv_at hl 0 rfl) ?_
      refine cw_l2i hx hb dX0_putDifference_74 (fun x9_25 hx9_25a hx9_25b => ?_)
      have hw := hw x9_25 hx9_25a hx9_25b
      obtain ⟨hO_26, hw⟩ := hw
      obtain ⟨h9i, hw⟩ := hw
      refine cw_ist (v := x9_25) hx hb hK hP hD hS hO_26.1 hO_26.2.2 h9i hO_26.2.1 dX0_putDifference_75 (fun H locs hP hD hS => ?_)
      obtain ⟨A_27, hA_27⟩ : ∃ y : Nat → Nat → Int, y = hz_s A (r y0 0) x7 x9_25 := ⟨_, rfl⟩
      rw [← hA_27] at hP hD
      have hw := hw A_27 hA_27
      refine lv_lload hx hb dX0_putDifference_76 (lv_at hl 0 rfl) ?_
      refine lv_lconst (v := hz_l 0) hx hb dX0_putDifference_78 (by decide +kernel) ?_
      obtain ⟨h9a, hw⟩ := hw
      refine hz_lcmp_ge (tgt := 87) hx hb dX0_putDifference_79 dX0_putDifference_80 (by decide) h9a ⟨by decide, by decide⟩ (fun c_28 => ?_) (fun c_28 => ?_)
      · have hw := hw.1 c_28
        refine lv_lconst (v := hz_l 0) hx hb dX0_putDifference_87 (by decide +kernel) ?_
        exact L88 A_27 x7 0 hw H locs ls hP hD hS (lv_sub hl [1, 2, 3, 4, 5, 7] rfl)
      · have hw := hw.2 c_28
        refine lv_lconst (v := hz_l 1) hx hb dX0_putDifference_83 (by decide +kernel) ?_
        refine lv_goto (tgt := 88) hx hb dX0_putDifference_84 (by decide) ?_
        exact L88 A_27 x7 1 hw H locs ls hP hD hS (lv_sub hl [1, 2, 3, 4, 5, 7] rfl)
  have hP := hP0; have hD := hD0; have hS := hS0; have hl := hl0; have hw := hw0
  obtain ⟨H, hH⟩ : ∃ H : Heap, H = s.heap := ⟨_, rfl⟩
  obtain ⟨locs, hlocs⟩ : ∃ L : List Loc, L = [] := ⟨_, rfl⟩
  rw [← hH] at hP
  have hS : va_S Ad s.heap H locs := by rw [hH, hlocs]; exact hS
  refine mw_HL hH hlocs ?_
  refine lv_aload_n hx hb dX0_putDifference_0 rfl (lv_at hl 1 rfl) ?_
  obtain ⟨hO_29, hw⟩ := hw
  refine cw_get (ci := 0) (v := .int (hz_i (z y1 1))) hx hb hts hin0 hown hK hP hO_29.1 hO_29.2 rfl 1 (by decide) (hts (.fieldLink RX0 7 "HiddenMoves$Big" "length" "I") (List.mem_cons_of_mem _ (List.mem_append_left _ (List.mem_of_getElem? (i := 0) rfl)))) (fun _ h9 => h9) rfl dX0_putDifference_1 ?_
  refine lv_aload_n hx hb dX0_putDifference_4 rfl (lv_at hl 0 rfl) ?_
  obtain ⟨hO_30, hw⟩ := hw
  refine cw_get (ci := 0) (v := .ref (r y0 0)) hx hb hts hin0 hown hK hP hO_30.1 hO_30.2 rfl 0 (by decide) (hts (.fieldLink RX0 17 "HiddenMoves$Big" "digits" "[I") (List.mem_cons_of_mem _ (List.mem_append_left _ (List.mem_of_getElem? (i := 1) rfl)))) (fun _ h9 => h9) rfl dX0_putDifference_5 ?_
  obtain ⟨hO_31, hw⟩ := hw
  refine cw_len hx hb hK hP hO_31.1 hO_31.2.2 rfl dX0_putDifference_8 ?_
  obtain ⟨h9a, hw⟩ := hw
  obtain ⟨h9b, hw⟩ := hw
  refine cw_mmin (x := z y1 1) (y := (cw_n K (r y0 0) : Int)) hx hb (by rw [hml]; exact hl.1.symm) hown (hts (.methodLink RX0 21 Lib.Math.min.name) (List.mem_cons_of_mem _ (List.mem_append_left _ (List.mem_of_getElem? (i := 2) rfl)))) (hts (.static Lib.Math.min.name) (List.mem_cons_of_mem _ (List.mem_append_left _ (List.mem_of_getElem? (i := 3) rfl)))) (hts (.initialized "java/lang/Math") (List.mem_cons_of_mem _ (List.mem_append_left _ (List.mem_of_getElem? (i := 4) rfl)))) (hts (.code Lib.Math.min.name Lib.Math.min.code 2 (some .int)) (List.mem_cons_of_mem _ (List.mem_append_left _ (List.mem_of_getElem? (i := 5) rfl)))) (Nat.le_of_ble_eq_true rfl) (Nat.le_of_ble_eq_true rfl) (Nat.zero_le _) (Nat.zero_le _) dX0_putDifference_9 h9a h9b (fun x9_32 hx9_32 => ?_)
  have hw := hw x9_32 hx9_32
  refine lv_istore_n (lv' := [(3, .int (hz_i x9_32)), (0, .ref y0), (1, .ref y1), (2, .ref y2)]) hx hb dX0_putDifference_12 rfl hl (by decide) rfl (fun ls hl => ?_)
  refine lv_aload_n hx hb dX0_putDifference_13 rfl (lv_at hl 3 rfl) ?_
  obtain ⟨hO_33, hw⟩ := hw
  refine cw_get (ci := 0) (v := .int (hz_i (z y2 1))) hx hb hts hin0 hown hK hP hO_33.1 hO_33.2 rfl 1 (by decide) (hts (.fieldLink RX0 7 "HiddenMoves$Big" "length" "I") (List.mem_cons_of_mem _ (List.mem_append_left _ (List.mem_of_getElem? (i := 0) rfl)))) (fun _ h9 => h9) rfl dX0_putDifference_14 ?_
  refine lv_iload_n hx hb dX0_putDifference_17 rfl (lv_at hl 0 rfl) ?_
  obtain ⟨h9a, hw⟩ := hw
  obtain ⟨h9b, hw⟩ := hw
  refine cw_mmin (x := z y2 1) (y := x9_32) hx hb (by rw [hml]; exact hl.1.symm) hown (hts (.methodLink RX0 21 Lib.Math.min.name) (List.mem_cons_of_mem _ (List.mem_append_left _ (List.mem_of_getElem? (i := 2) rfl)))) (hts (.static Lib.Math.min.name) (List.mem_cons_of_mem _ (List.mem_append_left _ (List.mem_of_getElem? (i := 3) rfl)))) (hts (.initialized "java/lang/Math") (List.mem_cons_of_mem _ (List.mem_append_left _ (List.mem_of_getElem? (i := 4) rfl)))) (hts (.code Lib.Math.min.name Lib.Math.min.code 2 (some .int)) (List.mem_cons_of_mem _ (List.mem_append_left _ (List.mem_of_getElem? (i := 5) rfl)))) (Nat.le_of_ble_eq_true rfl) (Nat.le_of_ble_eq_true rfl) (Nat.zero_le _) (Nat.zero_le _) dX0_putDifference_18 h9a h9b (fun x9_34 hx9_34 => ?_)
  have hw := hw x9_34 hx9_34
  refine lv_istore (lv' := [(4, .int (hz_i x9_34)), (3, .int (hz_i x9_32)), (0, .ref y0), (1, .ref y1), (2, .ref y2)]) hx hb dX0_putDifference_21 hl (by decide) rfl (fun ls hl => ?_)
  refine lv_lconst (v := hz_l 0) hx hb dX0_putDifference_23 (by decide +kernel) ?_
  refine lv_lstore (lv' := [(5, .long (hz_l 0)), (4, .int (hz_i x9_34)), (3, .int (hz_i x9_32)), (0, .ref y0), (1, .ref y1), (2, .ref y2)]) hx hb dX0_putDifference_24 hl (by decide) rfl (fun ls hl => ?_)
  refine lv_iconst (v := hz_i 0) hx hb dX0_putDifference_26 (by decide +kernel) ?_
  refine lv_istore (lv' := [(7, .int (hz_i 0)), (5, .long (hz_l 0)), (4, .int (hz_i x9_34)), (3, .int (hz_i x9_32)), (0, .ref y0), (1, .ref y1), (2, .ref y2)]) hx hb dX0_putDifference_27 hl (by decide) rfl (fun ls hl => ?_)
  exact L29 z A x9_32 x9_34 0 0 hw H locs ls hP hD hS (lv_sub hl [4, 5, 6, 3, 2, 1, 0] rfl)

noncomputable def wp_c0_plus_104 (L : List Nat) (K : Nat → cw_K) (z : Nat → Nat → Int) (r : Nat → Nat → Nat) (A : Nat → Nat → Int) (Q : (Nat → Nat → Int) → (Nat → Nat → Int) → Prop) : Prop := Q z A
noncomputable def wp_c0_plus_67 (L : List Nat) (K : Nat → cw_K) (z : Nat → Nat → Int) (r : Nat → Nat → Nat) (A : Nat → Nat → Int) (t0 : Nat) (t1 : Nat) (t2 : Nat) (Q : (Nat → Nat → Int) → (Nat → Nat → Int) → Prop) : Prop := cw_O L K 0 t2 ∧ wp_c0_putSum L K z r A t2 t1 t0 (fun z_2 A_3 => wp_c0_plus_104 L K z_2 r A_3  Q)
noncomputable def wp_c0_plus_51 (L : List Nat) (K : Nat → cw_K) (z : Nat → Nat → Int) (r : Nat → Nat → Nat) (A : Nat → Nat → Int) (y0 : Nat) (y1 : Nat) (t0 : Nat) (t1 : Nat) (Q : (Nat → Nat → Int) → (Nat → Nat → Int) → Prop) : Prop := cw_O L K 0 y0 ∧ cw_O L K 0 y1 ∧ hz_rI (z y0 1) ∧ hz_rI (z y1 1) ∧ ((z y0 1 < z y1 1 → wp_c0_plus_67 L K z r A y0 t0 t1  Q) ∧ (¬ (z y0 1 < z y1 1) → wp_c0_plus_67 L K z r A y1 t0 t1  Q))
noncomputable def wp_c0_plus (L : List Nat) (K : Nat → cw_K) (z : Nat → Nat → Int) (r : Nat → Nat → Nat) (A : Nat → Nat → Int) (y0 : Nat) (y1 : Nat) (Q : (Nat → Nat → Int) → (Nat → Nat → Int) → Prop) : Prop := cw_O L K 0 y1 ∧ hz_rI (z y1 1) ∧ ((¬ z y1 1 = 0 → cw_O L K 0 y0 ∧ hz_rI (z y0 1) ∧ ((¬ z y0 1 = 0 → hz_rI (z y0 2) ∧ hz_rI (z y1 2) ∧ ((¬ z y0 2 = z y1 2 → wp_c0_orderOfSizes L K z r A y0 y1 (fun rv_13 => hz_rI rv_13 ∧ ((rv_13 < 0 → (z y1 2 = 0 ∨ z y1 2 = 1) ∧ ∀ z_15 : Nat → Nat → Int, z_15 = cw_s z y0 2 (z y1 2) → wp_c0_putDifference L K z_15 r A y0 y1 y0 (fun z_17 A_18 => wp_c0_plus_104 L K z_17 r A_18  Q)) ∧ (¬ (rv_13 < 0) → wp_c0_putDifference L K z r A y0 y0 y1 (fun z_20 A_21 => wp_c0_plus_104 L K z_20 r A_21  Q))))) ∧ (z y0 2 = z y1 2 → hz_rI (z y0 1) ∧ hz_rI (z y1 1) ∧ ((z y0 1 < z y1 1 → wp_c0_plus_51 L K z r A y0 y1 y1 y0  Q) ∧ (¬ (z y0 1 < z y1 1) → wp_c0_plus_51 L K z r A y0 y1 y0 y0  Q))))) ∧ (z y0 1 = 0 → wp_c0_copy L K z r A y0 y1 (fun z_24 A_25 => wp_c0_plus_104 L K z_24 r A_25  Q)))) ∧ (z y1 1 = 0 → Q z A))
set_option maxHeartbeats 4000000 in
set_option maxRecDepth 100000 in
theorem k_c0_plus (l : Launch) (D : va_G) (sz : Nat) (C : Nat → ClassId) (L : List Nat) (K : Nat → cw_K) (z : Nat → Nat → Int) (r : Nat → Nat → Nat) (A : Nat → Nat → Int) (y0 : Nat) (y1 : Nat) (Q : (Nat → Nat → Int) → (Nat → Nat → Int) → Prop) (hw : wp_c0_plus L K z r A y0 y1 Q) : Met l yX0_plus wsX0_plus ({ frames := 2, cells := 0, slots := 0, locals := 51 } : Room) (va_Pc [.ref y0, .ref y1] (hm_P D (cw_w C L K z r A) (cw_t C) sz)) (va_Qv (S := Int × (Nat → Nat → Int) × (Nat → Nat → Nat) × (Nat → Nat → Int)) (fun u => Q u.2.1 u.2.2.2) (fun u t => hm_B D (va_A (cw_w C L K z r A) sz) (cw_w C L K u.2.1 r u.2.2.2) (cw_t C) t) (va_A (cw_w C L K z r A) sz)) 0 0 (va_A (cw_w C L K z r A) sz) := by
  refine Met.ofW (cc := cX0_plus) (maxL := 2) (ret := none) (by decide) rfl ?_
  intro p e s m args below meth c s₁ B hml hv
  obtain ⟨rfl, hsz, hP, hK, hD0, hE⟩ := hv
  have hx := B.exec
  have hb := B.bytes
  have hr := B.returns
  have hts := atoms_spec (ws := wsX0_plus) B.pre
  have hown : s.vm.findClass RX0 = some m.cls := findClass_of_methodNamed B.named
  have hlocks := B.notSynchronized
  have hin0 : ∀ w ∈ u_ws RX0 TX0 3, w ∈ wsX0_plus := fun w h => List.mem_cons_of_mem _ (List.mem_append_right _ (h))
  subst hsz
  have hD := hD0.self (sz := s.heap.size)
  generalize hAe : va_A (cw_w C L K z r A) s.heap.size = Ad at hD ⊢
  have hA : ∀ q : Nat, s.heap.size ≤ q → Ad q := fun q h => by rw [← hAe]; exact Or.inr h
  have hS : va_S Ad s.heap s.heap [] := va_S.rf
  have hl := lv_entry ([.ref y0, .ref y1]) (n := 2) (Nat.le_of_ble_eq_true rfl)
  rw [lg_entry_eq]
  generalize (lg_sl ([.ref y0, .ref y1]) ++ List.replicate (2 - (lg_sl ([.ref y0, .ref y1])).length) Slot.unset).toArray = ls at hl ⊢
  have hl : lv_has ls 2 [(0, .ref y0), (1, .ref y1)] := hl
  refine mw_Q (fun QQ hQQ => ?_)
  have hP0 := hP; have hD0 := hD; have hS0 := hS; have hl0 := hl; have hw0 := hw
  clear hP hD hS hl hw
  have L104 : ∀ (z : Nat → Nat → Int) (A : Nat → Nat → Int), wp_c0_plus_104 L K z r A  Q → ∀ (H : Heap) (locs : List Loc) (ls : Array Slot), va_P D vwCl (cw_w C L K z r A) H → va_D Ad (cw_w C L K z r A) → va_S Ad s.heap H locs → lv_has ls 2 [] → W p l e (headSpec wsX0_plus ({ frames := 2, cells := 0, slots := 0, locals := 51 } : Room)).room s m (List.toArray [.ref y0, .ref y1]) below meth c H locs 0 0 QQ (F0 m 104 ls []) := by
    intro z A hw H locs ls hP hD hS hl
    subst hQQ
    subst hAe
    exact W.vret hx hb hr (fun t ht hW => ⟨⟨(0, z, r, A), rfl, hw, by rw [ht]; exact hP, va_K.moved hW.alike hK, hD⟩, hS.F ht⟩) hS.2.2 dX0_plus_104
  have L67 : ∀ (z : Nat → Nat → Int) (A : Nat → Nat → Int) (t0 : Nat) (t1 : Nat) (t2 : Nat), wp_c0_plus_67 L K z r A t0 t1 t2  Q → ∀ (H : Heap) (locs : List Loc) (ls : Array Slot), va_P D vwCl (cw_w C L K z r A) H → va_D Ad (cw_w C L K z r A) → va_S Ad s.heap H locs → lv_has ls 2 [] → W p l e (headSpec wsX0_plus ({ frames := 2, cells := 0, slots := 0, locals := 51 } : Room)).room s m (List.toArray [.ref y0, .ref y1]) below meth c H locs 0 0 QQ (F0 m 67 ls [.ref t0, .ref t1, .ref t2]) := by
    intro z A t0 t1 t2 hw H locs ls hP hD hS hl
    obtain ⟨hO_4, hw⟩ := hw
    have hFc := cw_free hD hS hA
    obtain ⟨q9, hq9⟩ := cw_at (C := C) (z := z) (r := r) (A := A) hO_4.1 hO_4.2
    refine va_callv (va_runV (As := [.ref t1, .ref t0]) (rest := []) ⟨hx, hb, hml, hown, hts⟩ (k_c0_putSum l D _ C L K z r A t2 t1 t0 _ hw) (cwV 2 hts gX0_plus_X0_putSum rfl rfl rfl (by decide +kernel) ⟨Nat.le_of_ble_eq_true rfl, Nat.le_of_ble_eq_true rfl⟩) ⟨hm_blind, va_recv hK hP (ci := 0) (q0 := q9) rfl hq9, hm_pre hP hK hD hE⟩ rfl rfl hl.1 rfl (lv_room (Nat.le_of_ble_eq_true rfl)) dX0_plus_67 ⟨Nat.le_of_ble_eq_true rfl, Nat.le_of_ble_eq_true rfl⟩) hS (fun q _ h => hFc q h) hFc (fun u t H1 locs ht hvm hw hB hz1 hk1 hS => ?_)
    obtain ⟨rv_1, z_2, _, A_3⟩ := u
    obtain ⟨hP, hK1, hD1⟩ := hB
    rw [ht] at hP
    have hD := hD1.weaken (fun k q _ h => hFc q.1 h)
    have hP : va_P D vwCl (cw_w C L K z_2 r A_3) H1 := hP
    have hD : va_D Ad (cw_w C L K z_2 r A_3) := hD
    generalize H1 = H at hP hS ⊢
    refine W.eq (g2 := F0 m 70 ls []) rfl ?_
    refine lv_goto (tgt := 104) hx hb dX0_plus_70 (by decide) ?_
    exact L104 z_2 A_3 hw H locs ls hP hD hS (lv_sub hl [] rfl)
  have L51 : ∀ (z : Nat → Nat → Int) (A : Nat → Nat → Int) (t0 : Nat) (t1 : Nat), wp_c0_plus_51 L K z r A y0 y1 t0 t1  Q → ∀ (H : Heap) (locs : List Loc) (ls : Array Slot), va_P D vwCl (cw_w C L K z r A) H → va_D Ad (cw_w C L K z r A) → va_S Ad s.heap H locs → lv_has ls 2 [(0, .ref y0), (1, .ref y1)] → W p l e (headSpec wsX0_plus ({ frames := 2, cells := 0, slots := 0, locals := 51 } : Room)).room s m (List.toArray [.ref y0, .ref y1]) below meth c H locs 0 0 QQ (F0 m 51 ls [.ref t0, .ref t1]) := by
    intro z A t0 t1 hw H locs ls hP hD hS hl
    refine lv_aload_n hx hb dX0_plus_51 rfl (lv_at hl 0 rfl) ?_
    obtain ⟨hO_5, hw⟩ := hw
    refine cw_get (ci := 0) (v := .int (hz_i (z y0 1))) hx hb hts hin0 hown hK hP hO_5.1 hO_5.2 rfl 1 (by decide) (hts (.fieldLink RX0 7 "HiddenMoves$Big" "length" "I") (List.mem_cons_of_mem _ (List.mem_append_left _ (List.mem_append_left _ (List.mem_of_getElem? (i := 0) rfl))))) (fun _ h9 => h9) rfl dX0_plus_52 ?_
    refine lv_aload_n hx hb dX0_plus_55 rfl (lv_at hl 1 rfl) ?_
    obtain ⟨hO_6, hw⟩ := hw
    refine cw_get (ci := 0) (v := .int (hz_i (z y1 1))) hx hb hts hin0 hown hK hP hO_6.1 hO_6.2 rfl 1 (by decide) (hts (.fieldLink RX0 7 "HiddenMoves$Big" "length" "I") (List.mem_cons_of_mem _ (List.mem_append_left _ (List.mem_append_left _ (List.mem_of_getElem? (i := 0) rfl))))) (fun _ h9 => h9) rfl dX0_plus_56 ?_
    obtain ⟨h9a, hw⟩ := hw
    obtain ⟨h9b, hw⟩ := hw
    refine hz_icmp_lt (tgt := 66) hx hb dX0_plus_59 (by decide) h9a h9b (fun c_7 => ?_) (fun c_7 => ?_)
    · have hw := hw.1 c_7
      refine lv_aload_n hx hb dX0_plus_66 rfl (lv_at hl 0 rfl) ?_
      exact L67 z A y0 t0 t1 hw H locs ls hP hD hS (lv_sub hl [] rfl)
    · have hw := hw.2 c_7
      refine lv_aload_n hx hb dX0_plus_62 rfl (lv_at hl 1 rfl) ?_
      refine lv_goto (tgt := 67) hx hb dX0_plus_63 (by decide) ?_
      exact L67 z A y1 t0 t1 hw H locs ls hP hD hS (lv_sub hl [] rfl)
  have hP := hP0; have hD := hD0; have hS := hS0; have hl := hl0; have hw := hw0
  obtain ⟨H, hH⟩ : ∃ H : Heap, H = s.heap := ⟨_, rfl⟩
  obtain ⟨locs, hlocs⟩ : ∃ L : List Loc, L = [] := ⟨_, rfl⟩
  rw [← hH] at hP
  have hS : va_S Ad s.heap H locs := by rw [hH, hlocs]; exact hS
  refine mw_HL hH hlocs ?_
  refine lv_aload_n hx hb dX0_plus_0 rfl (lv_at hl 1 rfl) ?_
  obtain ⟨hO_8, hw⟩ := hw
  refine cw_get (ci := 0) (v := .int (hz_i (z y1 1))) hx hb hts hin0 hown hK hP hO_8.1 hO_8.2 rfl 1 (by decide) (hts (.fieldLink RX0 7 "HiddenMoves$Big" "length" "I") (List.mem_cons_of_mem _ (List.mem_append_left _ (List.mem_append_left _ (List.mem_of_getElem? (i := 0) rfl))))) (fun _ h9 => h9) rfl dX0_plus_1 ?_
  obtain ⟨h9a, hw⟩ := hw
  refine hz_if_ne (tgt := 8) hx hb dX0_plus_4 (by decide) h9a (fun c_9 => ?_) (fun c_9 => ?_)
  · have hw := hw.1 c_9
    refine lv_aload_n hx hb dX0_plus_8 rfl (lv_at hl 0 rfl) ?_
    obtain ⟨hO_10, hw⟩ := hw
    refine cw_get (ci := 0) (v := .int (hz_i (z y0 1))) hx hb hts hin0 hown hK hP hO_10.1 hO_10.2 rfl 1 (by decide) (hts (.fieldLink RX0 7 "HiddenMoves$Big" "length" "I") (List.mem_cons_of_mem _ (List.mem_append_left _ (List.mem_append_left _ (List.mem_of_getElem? (i := 0) rfl))))) (fun _ h9 => h9) rfl dX0_plus_9 ?_
    obtain ⟨h9a, hw⟩ := hw
    refine hz_if_ne (tgt := 23) hx hb dX0_plus_12 (by decide) h9a (fun c_11 => ?_) (fun c_11 => ?_)
    · have hw := hw.1 c_11
      refine lv_aload_n hx hb dX0_plus_23 rfl (lv_at hl 0 rfl) ?_
      refine cw_get (ci := 0) (v := .int (hz_i (z y0 2))) hx hb hts hin0 hown hK hP hO_10.1 hO_10.2 rfl 2 (by decide) (hts (.fieldLink RX0 13 "HiddenMoves$Big" "below" "Z") (List.mem_cons_of_mem _ (List.mem_append_left _ (List.mem_append_left _ (List.mem_of_getElem? (i := 1) rfl))))) (fun _ h9 => h9) rfl dX0_plus_24 ?_
      refine lv_aload_n hx hb dX0_plus_27 rfl (lv_at hl 1 rfl) ?_
      refine cw_get (ci := 0) (v := .int (hz_i (z y1 2))) hx hb hts hin0 hown hK hP hO_8.1 hO_8.2 rfl 2 (by decide) (hts (.fieldLink RX0 13 "HiddenMoves$Big" "below" "Z") (List.mem_cons_of_mem _ (List.mem_append_left _ (List.mem_append_left _ (List.mem_of_getElem? (i := 1) rfl))))) (fun _ h9 => h9) rfl dX0_plus_28 ?_
      obtain ⟨h9a, hw⟩ := hw
      obtain ⟨h9b, hw⟩ := hw
      refine hz_icmp_ne (tgt := 73) hx hb dX0_plus_31 (by decide) h9a h9b (fun c_12 => ?_) (fun c_12 => ?_)
      · have hw := hw.1 c_12
        refine lv_aload_n hx hb dX0_plus_73 rfl (lv_at hl 0 rfl) ?_
        refine lv_aload_n hx hb dX0_plus_74 rfl (lv_at hl 1 rfl) ?_
        have hFc := cw_free hD hS hA
        obtain ⟨q9, hq9⟩ := cw_at (C := C) (z := z) (r := r) (A := A) hO_10.1 hO_10.2
        refine va_calli (va_runV (As := [.ref y1]) (rest := []) ⟨hx, hb, hml, hown, hts⟩ (k_c0_orderOfSizes l D _ C L K z r A y0 y1 _ hw) (cwV 1 hts gX0_plus_X0_orderOfSizes rfl rfl rfl (by decide +kernel) ⟨Nat.le_of_ble_eq_true rfl, Nat.le_of_ble_eq_true rfl⟩) ⟨hm_blind, va_recv hK hP (ci := 0) (q0 := q9) rfl hq9, hm_pre hP hK hD hE⟩ rfl rfl hl.1 rfl (lv_room (Nat.le_of_ble_eq_true rfl)) dX0_plus_75 ⟨Nat.le_of_ble_eq_true rfl, Nat.le_of_ble_eq_true rfl⟩) hS (fun q _ h => hFc q h) hFc (fun rv u t H1 locs ht hvm hw hB hz1 hk1 hS => ?_)
        obtain ⟨rv_13, _, _, _⟩ := u
        obtain ⟨hP, hK1, hD1⟩ := hB
        rw [ht] at hP
        obtain ⟨hrv, hw⟩ := hw
        subst hrv
        have hD := hD1.weaken (fun k q _ h => hFc q.1 h)
        have hP : va_P D vwCl (cw_w C L K z r A) H1 := hP
        have hD : va_D Ad (cw_w C L K z r A) := hD
        generalize H1 = H at hP hS ⊢
        refine W.eq (g2 := F0 m 78 ls [.int (hz_i rv_13)]) rfl ?_
        obtain ⟨h9a, hw⟩ := hw
        refine hz_if_lt (tgt := 90) hx hb dX0_plus_78 (by decide) h9a (fun c_14 => ?_) (fun c_14 => ?_)
        · have hw := hw.1 c_14
          refine lv_aload_n hx hb dX0_plus_90 rfl (lv_at hl 0 rfl) ?_
          refine lv_aload_n hx hb dX0_plus_91 rfl (lv_at hl 1 rfl) ?_
          refine cw_get (ci := 0) (v := .int (hz_i (z y1 2))) hx hb hts hin0 hown hK hP hO_8.1 hO_8.2 rfl 2 (by decide) (hts (.fieldLink RX0 13 "HiddenMoves$Big" "below" "Z") (List.mem_cons_of_mem _ (List.mem_append_left _ (List.mem_append_left _ (List.mem_of_getElem? (i := 1) rfl))))) (fun _ h9 => h9) rfl dX0_plus_92 ?_
          obtain ⟨h9z, hw⟩ := hw
          refine cw_putz (ci := 0) (ty := .boolean) (v := .int (hz_i (z y1 2))) (x := z y1 2) hx hb hts hin0 tyX0 tyX0_ok nmX0 hown hK hP hD hS hO_10.1 hO_10.2 rfl 2 (by decide) (hts (.fieldLink RX0 13 "HiddenMoves$Big" "below" "Z") (List.mem_cons_of_mem _ (List.mem_append_left _ (List.mem_append_left _ (List.mem_of_getElem? (i := 1) rfl))))) (fun _ h9 => h9) rfl (by decide +kernel) (hz_tZ h9z) (hz_fZ h9z) (Nat.le_of_ble_eq_true rfl) (cw_z0_2 _ _ _) dX0_plus_95 (fun H locs hP hD hS => ?_)
          obtain ⟨z_15, hz_15⟩ : ∃ y : Nat → Nat → Int, y = cw_s z y0 2 (z y1 2) := ⟨_, rfl⟩
          rw [← hz_15] at hP hD
          have hw := hw z_15 hz_15
          refine lv_aload_n hx hb dX0_plus_98 rfl (lv_at hl 0 rfl) ?_
          refine lv_aload_n hx hb dX0_plus_99 rfl (lv_at hl 1 rfl) ?_
          refine lv_aload_n hx hb dX0_plus_100 rfl (lv_at hl 0 rfl) ?_
          have hFc := cw_free hD hS hA
          obtain ⟨q9, hq9⟩ := cw_at (C := C) (z := z_15) (r := r) (A := A) hO_10.1 hO_10.2
          refine va_callv (va_runV (As := [.ref y1, .ref y0]) (rest := []) ⟨hx, hb, hml, hown, hts⟩ (k_c0_putDifference l D _ C L K z_15 r A y0 y1 y0 _ hw) (cwV 2 hts gX0_plus_X0_putDifference rfl rfl rfl (by decide +kernel) ⟨Nat.le_of_ble_eq_true rfl, Nat.le_of_ble_eq_true rfl⟩) ⟨hm_blind, va_recv hK hP (ci := 0) (q0 := q9) rfl hq9, hm_pre hP hK hD hE⟩ rfl rfl hl.1 rfl (lv_room (Nat.le_of_ble_eq_true rfl)) dX0_plus_101 ⟨Nat.le_of_ble_eq_true rfl, Nat.le_of_ble_eq_true rfl⟩) hS (fun q _ h => hFc q h) hFc (fun u t H1 locs ht hvm hw hB hz1 hk1 hS => ?_)
          obtain ⟨rv_16, z_17, _, A_18⟩ := u
          obtain ⟨hP, hK1, hD1⟩ := hB
          rw [ht] at hP
          have hD := hD1.weaken (fun k q _ h => hFc q.1 h)
          have hP : va_P D vwCl (cw_w C L K z_17 r A_18) H1 := hP
          have hD : va_D Ad (cw_w C L K z_17 r A_18) := hD
          generalize H1 = H at hP hS ⊢
          refine W.eq (g2 := F0 m 104 ls []) rfl ?_
          exact L104 z_17 A_18 hw H locs ls hP hD hS (lv_sub hl [] rfl)
        · have hw := hw.2 c_14
          refine lv_aload_n hx hb dX0_plus_81 rfl (lv_at hl 0 rfl) ?_
          refine lv_aload_n hx hb dX0_plus_82 rfl (lv_at hl 0 rfl) ?_
          refine lv_aload_n hx hb dX0_plus_83 rfl (lv_at hl 1 rfl) ?_
          have hFc := cw_free hD hS hA
          obtain ⟨q9, hq9⟩ := cw_at (C := C) (z := z) (r := r) (A := A) hO_10.1 hO_10.2
          refine va_callv (va_runV (As := [.ref y0, .ref y1]) (rest := []) ⟨hx, hb, hml, hown, hts⟩ (k_c0_putDifference l D _ C L K z r A y0 y0 y1 _ hw) (cwV 2 hts gX0_plus_X0_putDifference rfl rfl rfl (by decide +kernel) ⟨Nat.le_of_ble_eq_true rfl, Nat.le_of_ble_eq_true rfl⟩) ⟨hm_blind, va_recv hK hP (ci := 0) (q0 := q9) rfl hq9, hm_pre hP hK hD hE⟩ rfl rfl hl.1 rfl (lv_room (Nat.le_of_ble_eq_true rfl)) dX0_plus_84 ⟨Nat.le_of_ble_eq_true rfl, Nat.le_of_ble_eq_true rfl⟩) hS (fun q _ h => hFc q h) hFc (fun u t H1 locs ht hvm hw hB hz1 hk1 hS => ?_)
          obtain ⟨rv_19, z_20, _, A_21⟩ := u
          obtain ⟨hP, hK1, hD1⟩ := hB
          rw [ht] at hP
          have hD := hD1.weaken (fun k q _ h => hFc q.1 h)
          have hP : va_P D vwCl (cw_w C L K z_20 r A_21) H1 := hP
          have hD : va_D Ad (cw_w C L K z_20 r A_21) := hD
          generalize H1 = H at hP hS ⊢
          refine W.eq (g2 := F0 m 87 ls []) rfl ?_
          refine lv_goto (tgt := 104) hx hb dX0_plus_87 (by decide) ?_
          exact L104 z_20 A_21 hw H locs ls hP hD hS (lv_sub hl [] rfl)
      · have hw := hw.2 c_12
        refine lv_aload_n hx hb dX0_plus_34 rfl (lv_at hl 0 rfl) ?_
        refine lv_aload_n hx hb dX0_plus_35 rfl (lv_at hl 0 rfl) ?_
        refine cw_get (ci := 0) (v := .int (hz_i (z y0 1))) hx hb hts hin0 hown hK hP hO_10.1 hO_10.2 rfl 1 (by decide) (hts (.fieldLink RX0 7 "HiddenMoves$Big" "length" "I") (List.mem_cons_of_mem _ (List.mem_append_left _ (List.mem_append_left _ (List.mem_of_getElem? (i := 0) rfl))))) (fun _ h9 => h9) rfl dX0_plus_36 ?_
        refine lv_aload_n hx hb dX0_plus_39 rfl (lv_at hl 1 rfl) ?_
        refine cw_get (ci := 0) (v := .int (hz_i (z y1 1))) hx hb hts hin0 hown hK hP hO_8.1 hO_8.2 rfl 1 (by decide) (hts (.fieldLink RX0 7 "HiddenMoves$Big" "length" "I") (List.mem_cons_of_mem _ (List.mem_append_left _ (List.mem_append_left _ (List.mem_of_getElem? (i := 0) rfl))))) (fun _ h9 => h9) rfl dX0_plus_40 ?_
        obtain ⟨h9a, hw⟩ := hw
        obtain ⟨h9b, hw⟩ := hw
        refine hz_icmp_lt (tgt := 50) hx hb dX0_plus_43 (by decide) h9a h9b (fun c_22 => ?_) (fun c_22 => ?_)
        · have hw := hw.1 c_22
          refine lv_aload_n hx hb dX0_plus_50 rfl (lv_at hl 1 rfl) ?_
          exact L51 z A y1 y0 hw H locs ls hP hD hS (lv_sub hl [0, 1] rfl)
        · have hw := hw.2 c_22
          refine lv_aload_n hx hb dX0_plus_46 rfl (lv_at hl 0 rfl) ?_
          refine lv_goto (tgt := 51) hx hb dX0_plus_47 (by decide) ?_
          exact L51 z A y0 y0 hw H locs ls hP hD hS (lv_sub hl [0, 1] rfl)
    · have hw := hw.2 c_11
      refine lv_aload_n hx hb dX0_plus_15 rfl (lv_at hl 0 rfl) ?_
      refine lv_aload_n hx hb dX0_plus_16 rfl (lv_at hl 1 rfl) ?_
      have hFc := cw_free hD hS hA
      obtain ⟨q9, hq9⟩ := cw_at (C := C) (z := z) (r := r) (A := A) hO_10.1 hO_10.2
      refine va_callv (va_runV (As := [.ref y1]) (rest := []) ⟨hx, hb, hml, hown, hts⟩ (k_c0_copy l D _ C L K z r A y0 y1 _ hw) (cwV 1 hts gX0_plus_X0_copy rfl rfl rfl (by decide +kernel) ⟨Nat.le_of_ble_eq_true rfl, Nat.le_of_ble_eq_true rfl⟩) ⟨hm_blind, va_recv hK hP (ci := 0) (q0 := q9) rfl hq9, hm_pre hP hK hD hE⟩ rfl rfl hl.1 rfl (lv_room (Nat.le_of_ble_eq_true rfl)) dX0_plus_17 ⟨Nat.le_of_ble_eq_true rfl, Nat.le_of_ble_eq_true rfl⟩) hS (fun q _ h => hFc q h) hFc (fun u t H1 locs ht hvm hw hB hz1 hk1 hS => ?_)
      obtain ⟨rv_23, z_24, _, A_25⟩ := u
      obtain ⟨hP, hK1, hD1⟩ := hB
      rw [ht] at hP
      have hD := hD1.weaken (fun k q _ h => hFc q.1 h)
      have hP : va_P D vwCl (cw_w C L K z_24 r A_25) H1 := hP
      have hD : va_D Ad (cw_w C L K z_24 r A_25) := hD
      generalize H1 = H at hP hS ⊢
      refine W.eq (g2 := F0 m 20 ls []) rfl ?_
      refine lv_goto (tgt := 104) hx hb dX0_plus_20 (by decide) ?_
      exact L104 z_24 A_25 hw H locs ls hP hD hS (lv_sub hl [] rfl)
  · have hw := hw.2 c_9
    subst hQQ
    subst hAe
    exact W.vret hx hb hr (fun t ht hW => ⟨⟨(0, z, r, A), rfl, hw, by rw [ht]; exact hP, va_K.moved hW.alike hK, hD⟩, hS.F ht⟩) hS.2.2 dX0_plus_7

noncomputable def wp_c0_put_86 (L : List Nat) (K : Nat → cw_K) (z : Nat → Nat → Int) (r : Nat → Nat → Nat) (A : Nat → Nat → Int) (Q : (Nat → Nat → Int) → (Nat → Nat → Int) → Prop) : Prop := Q z A
noncomputable def wp_c0_put_36 (L : List Nat) (K : Nat → cw_K) (z : Nat → Nat → Int) (r : Nat → Nat → Nat) (A : Nat → Nat → Int) (y0 : Nat) (x3 : Int) (x5 : Int) (Q : (Nat → Nat → Int) → (Nat → Nat → Int) → Prop) : Prop := ∀ P36 : (Nat → Nat → Int) → (Nat → Nat → Int) → Int → Int → Prop, (∀ (z : Nat → Nat → Int) (A : Nat → Nat → Int) (x3 : Int) (x5 : Int), hz_rI x5 ∧ ((2 ≤ x5 → wp_c0_put_86 L K z r A  Q) ∧ (¬ (2 ≤ x5) → cw_O L K 0 y0 ∧ cw_A L K 0 (r y0 0) ∧ hz_rI x5 ∧ hz_rI (cw_n K (r y0 0) : Int) ∧ (((cw_n K (r y0 0) : Int) ≤ x5 → wp_c0_put_86 L K z r A  Q) ∧ (¬ ((cw_n K (r y0 0) : Int) ≤ x5) → hz_rL x3 ∧ ((x3 = 0 → wp_c0_put_86 L K z r A  Q) ∧ (¬ (x3 = 0) → ∀ x9_6 : Int, hz_rI x9_6 → x9_6 % 4294967296 = x3 % 4294967296 → ((0 : Int) ≤ x5 ∧ x5 < (cw_n K (r y0 0) : Int)) ∧ ∀ A_7 : Nat → Nat → Int, A_7 = hz_s A (r y0 0) x5 x9_6 → ∀ x9_8 : Int, x9_8 = x3 % 18446744073709551616 / 4294967296 → ∀ z_9 : Nat → Nat → Int, z_9 = cw_s z y0 1 (x5 + 1) → ∀ x5_10 : Int, x5_10 = x5 + 1 → P36 z_9 A_7 x9_8 x5_10)))))) → P36 z A x3 x5) → P36 z A x3 x5
noncomputable def wp_c0_put_25 (L : List Nat) (K : Nat → cw_K) (z : Nat → Nat → Int) (r : Nat → Nat → Nat) (A : Nat → Nat → Int) (y0 : Nat) (x3 : Int) (t0 : Int) (t1 : Nat) (Q : (Nat → Nat → Int) → (Nat → Nat → Int) → Prop) : Prop := cw_O L K 0 t1 ∧ (t0 = 0 ∨ t0 = 1) ∧ ∀ z_12 : Nat → Nat → Int, z_12 = cw_s z t1 2 t0 → cw_O L K 0 y0 ∧ ∀ z_14 : Nat → Nat → Int, z_14 = cw_s z_12 y0 1 0 → wp_c0_put_36 L K z_14 r A y0 x3 0  Q
noncomputable def wp_c0_put_12 (L : List Nat) (K : Nat → cw_K) (z : Nat → Nat → Int) (r : Nat → Nat → Nat) (A : Nat → Nat → Int) (y0 : Nat) (y1 : Int) (t0 : Int) (Q : (Nat → Nat → Int) → (Nat → Nat → Int) → Prop) : Prop := hz_rL y1 ∧ ((0 ≤ y1 → wp_c0_put_25 L K z r A y0 t0 0 y0  Q) ∧ (¬ (0 ≤ y1) → wp_c0_put_25 L K z r A y0 t0 1 y0  Q))
noncomputable def wp_c0_put (L : List Nat) (K : Nat → cw_K) (z : Nat → Nat → Int) (r : Nat → Nat → Nat) (A : Nat → Nat → Int) (y0 : Nat) (y1 : Int) (Q : (Nat → Nat → Int) → (Nat → Nat → Int) → Prop) : Prop := hz_rL y1 ∧ ((0 ≤ y1 → wp_c0_put_12 L K z r A y0 y1 y1  Q) ∧ (¬ (0 ≤ y1) → wp_c0_put_12 L K z r A y0 y1 (-y1)  Q))
set_option maxHeartbeats 4000000 in
set_option maxRecDepth 100000 in
theorem k_c0_put (l : Launch) (D : va_G) (sz : Nat) (C : Nat → ClassId) (L : List Nat) (K : Nat → cw_K) (z : Nat → Nat → Int) (r : Nat → Nat → Nat) (A : Nat → Nat → Int) (y0 : Nat) (y1 : Int) (Q : (Nat → Nat → Int) → (Nat → Nat → Int) → Prop) (hw : wp_c0_put L K z r A y0 y1 Q) : Met l yX0_put wsX0_put ({ frames := 0, cells := 0, slots := 0, locals := 0 } : Room) (va_Pc [.ref y0, .long (hz_l y1)] (hm_P D (cw_w C L K z r A) (cw_t C) sz)) (va_Qv (S := Int × (Nat → Nat → Int) × (Nat → Nat → Nat) × (Nat → Nat → Int)) (fun u => Q u.2.1 u.2.2.2) (fun u t => hm_B D (va_A (cw_w C L K z r A) sz) (cw_w C L K u.2.1 r u.2.2.2) (cw_t C) t) (va_A (cw_w C L K z r A) sz)) 0 0 (va_A (cw_w C L K z r A) sz) := by
  refine Met.ofW (cc := cX0_put) (maxL := 6) (ret := none) (by decide) rfl ?_
  intro p e s m args below meth c s₁ B hml hv
  obtain ⟨rfl, hsz, hP, hK, hD0, hE⟩ := hv
  have hx := B.exec
  have hb := B.bytes
  have hr := B.returns
  have hts := atoms_spec (ws := wsX0_put) B.pre
  have hown : s.vm.findClass RX0 = some m.cls := findClass_of_methodNamed B.named
  have hlocks := B.notSynchronized
  have hin0 : ∀ w ∈ u_ws RX0 TX0 3, w ∈ wsX0_put := fun w h => List.mem_cons_of_mem _ (List.mem_append_right _ (h))
  subst hsz
  have hD := hD0.self (sz := s.heap.size)
  generalize hAe : va_A (cw_w C L K z r A) s.heap.size = Ad at hD ⊢
  have hA : ∀ q : Nat, s.heap.size ≤ q → Ad q := fun q h => by rw [← hAe]; exact Or.inr h
  have hS : va_S Ad s.heap s.heap [] := va_S.rf
  have hl := lv_entry ([.ref y0, .long (hz_l y1)]) (n := 6) (Nat.le_of_ble_eq_true rfl)
  rw [lg_entry_eq]
  generalize (lg_sl ([.ref y0, .long (hz_l y1)]) ++ List.replicate (6 - (lg_sl ([.ref y0, .long (hz_l y1)])).length) Slot.unset).toArray = ls at hl ⊢
  have hl : lv_has ls 6 [(0, .ref y0), (1, .long (hz_l y1))] := hl
  refine mw_Q (fun QQ hQQ => ?_)
  have hP0 := hP; have hD0 := hD; have hS0 := hS; have hl0 := hl; have hw0 := hw
  clear hP hD hS hl hw
  have L86 : ∀ (z : Nat → Nat → Int) (A : Nat → Nat → Int), wp_c0_put_86 L K z r A  Q → ∀ (H : Heap) (locs : List Loc) (ls : Array Slot), va_P D vwCl (cw_w C L K z r A) H → va_D Ad (cw_w C L K z r A) → va_S Ad s.heap H locs → lv_has ls 6 [] → W p l e (headSpec wsX0_put ({ frames := 0, cells := 0, slots := 0, locals := 0 } : Room)).room s m (List.toArray [.ref y0, .long (hz_l y1)]) below meth c H locs 0 0 QQ (F0 m 86 ls []) := by
    intro z A hw H locs ls hP hD hS hl
    subst hQQ
    subst hAe
    exact W.vret hx hb hr (fun t ht hW => ⟨⟨(0, z, r, A), rfl, hw, by rw [ht]; exact hP, va_K.moved hW.alike hK, hD⟩, hS.F ht⟩) hS.2.2 dX0_put_86
  have L36 : ∀ (z : Nat → Nat → Int) (A : Nat → Nat → Int) (x3 : Int) (x5 : Int), wp_c0_put_36 L K z r A y0 x3 x5  Q → ∀ (H : Heap) (locs : List Loc) (ls : Array Slot), va_P D vwCl (cw_w C L K z r A) H → va_D Ad (cw_w C L K z r A) → va_S Ad s.heap H locs → lv_has ls 6 [(0, .ref y0), (3, .long (hz_l x3)), (5, .int (hz_i x5))] → W p l e (headSpec wsX0_put ({ frames := 0, cells := 0, slots := 0, locals := 0 } : Room)).room s m (List.toArray [.ref y0, .long (hz_l y1)]) below meth c H locs 0 0 QQ (F0 m 36 ls []) := by
    intro z A x3 x5 hw
    obtain ⟨P36, hP36⟩ : ∃ P : (Nat → Nat → Int) → (Nat → Nat → Int) → Int → Int → Prop, ∀ (z : Nat → Nat → Int) (A : Nat → Nat → Int) (x3 : Int) (x5 : Int), P z A x3 x5 ↔ (∀ (H : Heap) (locs : List Loc) (ls : Array Slot), va_P D vwCl (cw_w C L K z r A) H → va_D Ad (cw_w C L K z r A) → va_S Ad s.heap H locs → lv_has ls 6 [(0, .ref y0), (3, .long (hz_l x3)), (5, .int (hz_i x5))] → W p l e (headSpec wsX0_put ({ frames := 0, cells := 0, slots := 0, locals := 0 } : Room)).room s m (List.toArray [.ref y0, .long (hz_l y1)]) below meth c H locs 0 0 QQ (F0 m 36 ls [])) := ⟨fun (z : Nat → Nat → Int) (A : Nat → Nat → Int) (x3 : Int) (x5 : Int) => ∀ (H : Heap) (locs : List Loc) (ls : Array Slot), va_P D vwCl (cw_w C L K z r A) H → va_D Ad (cw_w C L K z r A) → va_S Ad s.heap H locs → lv_has ls 6 [(0, .ref y0), (3, .long (hz_l x3)), (5, .int (hz_i x5))] → W p l e (headSpec wsX0_put ({ frames := 0, cells := 0, slots := 0, locals := 0 } : Room)).room s m (List.toArray [.ref y0, .long (hz_l y1)]) below meth c H locs 0 0 QQ (F0 m 36 ls []), fun _ _ _ _ => Iff.rfl⟩
    refine (hP36 z A x3 x5).mp (hw P36 ?_)
    intro z A x3 x5 hw
    refine (hP36 z A x3 x5).mpr ?_
    intro H locs ls hP hD hS hl
    refine lv_iload hx hb dX0_put_36 (lv_at hl 2 rfl) ?_
    refine lv_iconst (v := hz_i 2) hx hb dX0_put_38 (by decide +kernel) ?_
    obtain ⟨h9a, hw⟩ := hw
    refine hz_icmp_ge (tgt := 86) hx hb dX0_put_39 (by decide) h9a ⟨by decide, by decide⟩ (fun c_1 => ?_) (fun c_1 => ?_)
    · have hw := hw.1 c_1
      exact L86 z A hw H locs ls hP hD hS (lv_sub hl [] rfl)
    · have hw := hw.2 c_1
      refine lv_iload hx hb dX0_put_42 (lv_at hl 2 rfl) ?_
      refine lv_aload_n hx hb dX0_put_44 rfl (lv_at hl 0 rfl) ?_
      obtain ⟨hO_2, hw⟩ := hw
      refine cw_get (ci := 0) (v := .ref (r y0 0)) hx hb hts hin0 hown hK hP hO_2.1 hO_2.2 rfl 0 (by decide) (hts (.fieldLink RX0 17 "HiddenMoves$Big" "digits" "[I") (List.mem_cons_of_mem _ (List.mem_append_left _ (List.mem_of_getElem? (i := 2) rfl)))) (fun _ h9 => h9) rfl dX0_put_45 ?_
      obtain ⟨hO_3, hw⟩ := hw
      refine cw_len hx hb hK hP hO_3.1 hO_3.2.2 rfl dX0_put_48 ?_
      obtain ⟨h9a, hw⟩ := hw
      obtain ⟨h9b, hw⟩ := hw
      refine hz_icmp_ge (tgt := 86) hx hb dX0_put_49 (by decide) h9a h9b (fun c_4 => ?_) (fun c_4 => ?_)
      · have hw := hw.1 c_4
        exact L86 z A hw H locs ls hP hD hS (lv_sub hl [] rfl)
      · have hw := hw.2 c_4
        refine lv_lload_n hx hb dX0_put_52 rfl (lv_at hl 1 rfl) ?_
        refine lv_lconst (v := hz_l 0) hx hb dX0_put_53 (by decide +kernel) ?_
        obtain ⟨h9a, hw⟩ := hw
        refine hz_lcmp_eq (tgt := 86) hx hb dX0_put_54 dX0_put_55 (by decide) h9a ⟨by decide, by decide⟩ (fun c_5 => ?_) (fun c_5 => ?_)
        · have hw := hw.1 c_5
          exact L86 z A hw H locs ls hP hD hS (lv_sub hl [] rfl)
        · have hw := hw.2 c_5
          refine lv_aload_n hx hb dX0_put_58 rfl (lv_at hl 0 rfl) ?_
          refine cw_get (ci := 0) (v := .ref (r y0 0)) hx hb hts hin0 hown hK hP hO_2.1 hO_2.2 rfl 0 (by decide) (hts (.fieldLink RX0 17 "HiddenMoves$Big" "digits" "[I") (List.mem_cons_of_mem _ (List.mem_append_left _ (List.mem_of_getElem? (i := 2) rfl)))) (fun _ h9 => h9) rfl dX0_put_59 ?_
          refine lv_iload hx hb dX0_put_62 (lv_at hl 2 rfl) ?_
          refine lv_lload_n hx hb dX0_put_64 rfl (lv_at hl 1 rfl) ?_
          refine cw_l2i hx hb dX0_put_65 (fun x9_6 hx9_6a hx9_6b => ?_)
          have hw := hw x9_6 hx9_6a hx9_6b
          obtain ⟨h9i, hw⟩ := hw
          refine cw_ist (v := x9_6) hx hb hK hP hD hS hO_3.1 hO_3.2.2 h9i hO_3.2.1 dX0_put_66 (fun H locs hP hD hS => ?_)
          obtain ⟨A_7, hA_7⟩ : ∃ y : Nat → Nat → Int, y = hz_s A (r y0 0) x5 x9_6 := ⟨_, rfl⟩
          rw [← hA_7] at hP hD
          have hw := hw A_7 hA_7
          refine lv_lload_n hx hb dX0_put_67 rfl (lv_at hl 1 rfl) ?_
          refine lv_bipush (v := hz_i 32) hx hb dX0_put_68 (by decide +kernel) ?_
          refine cw_lushr (P := 4294967296) (d := 32) hx hb dX0_put_70 (by decide +kernel) (by decide +kernel) (by decide +kernel) (fun x9_8 hx9_8a => ?_)
          have hw := hw x9_8 hx9_8a
          refine lv_lstore_n (lv' := [(3, .long (hz_l x9_8)), (0, .ref y0), (5, .int (hz_i x5))]) hx hb dX0_put_71 rfl hl (by decide) rfl (fun ls hl => ?_)
          refine lv_aload_n hx hb dX0_put_72 rfl (lv_at hl 1 rfl) ?_
          refine lv_iload hx hb dX0_put_73 (lv_at hl 2 rfl) ?_
          refine lv_iconst (v := hz_i 1) hx hb dX0_put_75 (by decide +kernel) ?_
          refine hz_iadd hx hb dX0_put_76 ?_
          refine cw_putz (ci := 0) (ty := .int) (v := .int (hz_i (x5 + 1))) (x := x5 + 1) hx hb hts hin0 tyX0 tyX0_ok nmX0 hown hK hP hD hS hO_2.1 hO_2.2 rfl 1 (by decide) (hts (.fieldLink RX0 7 "HiddenMoves$Big" "length" "I") (List.mem_cons_of_mem _ (List.mem_append_left _ (List.mem_of_getElem? (i := 1) rfl)))) (fun _ h9 => h9) rfl (by decide +kernel) rfl rfl (Nat.le_of_ble_eq_true rfl) (cw_z0_1 _ _ _) dX0_put_77 (fun H locs hP hD hS => ?_)
          obtain ⟨z_9, hz_9⟩ : ∃ y : Nat → Nat → Int, y = cw_s z y0 1 (x5 + 1) := ⟨_, rfl⟩
          rw [← hz_9] at hP hD
          have hw := hw z_9 hz_9
          obtain ⟨x5_10, hx5_10⟩ : ∃ y : Int, y = x5 + 1 := ⟨_, rfl⟩
          have hw := hw x5_10 hx5_10
          refine lv_iinc (v := hz_i x5_10) (lv' := [(5, .int (hz_i x5_10)), (3, .long (hz_l x9_8)), (0, .ref y0)]) hx hb dX0_put_80 hl (k := 2) rfl (by rw [hx5_10]; exact hz_i_add _ _) (by decide) rfl (fun ls hl => ?_)
          refine lv_goto (tgt := 36) hx hb dX0_put_83 (by decide) ?_
          exact (hP36 z_9 A_7 x9_8 x5_10).mp hw H locs ls hP hD hS (lv_sub hl [2, 1, 0] rfl)
  have L25 : ∀ (z : Nat → Nat → Int) (A : Nat → Nat → Int) (x3 : Int) (t0 : Int) (t1 : Nat), wp_c0_put_25 L K z r A y0 x3 t0 t1  Q → ∀ (H : Heap) (locs : List Loc) (ls : Array Slot), va_P D vwCl (cw_w C L K z r A) H → va_D Ad (cw_w C L K z r A) → va_S Ad s.heap H locs → lv_has ls 6 [(0, .ref y0), (3, .long (hz_l x3))] → W p l e (headSpec wsX0_put ({ frames := 0, cells := 0, slots := 0, locals := 0 } : Room)).room s m (List.toArray [.ref y0, .long (hz_l y1)]) below meth c H locs 0 0 QQ (F0 m 25 ls [.int (hz_i t0), .ref t1]) := by
    intro z A x3 t0 t1 hw H locs ls hP hD hS hl
    obtain ⟨hO_11, hw⟩ := hw
    obtain ⟨h9z, hw⟩ := hw
    refine cw_putz (ci := 0) (ty := .boolean) (v := .int (hz_i t0)) (x := t0) hx hb hts hin0 tyX0 tyX0_ok nmX0 hown hK hP hD hS hO_11.1 hO_11.2 rfl 2 (by decide) (hts (.fieldLink RX0 13 "HiddenMoves$Big" "below" "Z") (List.mem_cons_of_mem _ (List.mem_append_left _ (List.mem_of_getElem? (i := 0) rfl)))) (fun _ h9 => h9) rfl (by decide +kernel) (hz_tZ h9z) (hz_fZ h9z) (Nat.le_of_ble_eq_true rfl) (cw_z0_2 _ _ _) dX0_put_25 (fun H locs hP hD hS => ?_)
    obtain ⟨z_12, hz_12⟩ : ∃ y : Nat → Nat → Int, y = cw_s z t1 2 t0 := ⟨_, rfl⟩
    rw [← hz_12] at hP hD
    have hw := hw z_12 hz_12
    refine lv_aload_n hx hb dX0_put_28 rfl (lv_at hl 0 rfl) ?_
    refine lv_iconst (v := hz_i 0) hx hb dX0_put_29 (by decide +kernel) ?_
    obtain ⟨hO_13, hw⟩ := hw
    refine cw_putz (ci := 0) (ty := .int) (v := .int (hz_i 0)) (x := 0) hx hb hts hin0 tyX0 tyX0_ok nmX0 hown hK hP hD hS hO_13.1 hO_13.2 rfl 1 (by decide) (hts (.fieldLink RX0 7 "HiddenMoves$Big" "length" "I") (List.mem_cons_of_mem _ (List.mem_append_left _ (List.mem_of_getElem? (i := 1) rfl)))) (fun _ h9 => h9) rfl (by decide +kernel) rfl rfl (Nat.le_of_ble_eq_true rfl) (cw_z0_1 _ _ _) dX0_put_30 (fun H locs hP hD hS => ?_)
    obtain ⟨z_14, hz_14⟩ : ∃ y : Nat → Nat → Int, y = cw_s z_12 y0 1 0 := ⟨_, rfl⟩
    rw [← hz_14] at hP hD
    have hw := hw z_14 hz_14
    refine lv_iconst (v := hz_i 0) hx hb dX0_put_33 (by decide +kernel) ?_
    refine lv_istore (lv' := [(5, .int (hz_i 0)), (0, .ref y0), (3, .long (hz_l x3))]) hx hb dX0_put_34 hl (by decide) rfl (fun ls hl => ?_)
    exact L36 z_14 A x3 0 hw H locs ls hP hD hS (lv_sub hl [1, 2, 0] rfl)
  have L12 : ∀ (z : Nat → Nat → Int) (A : Nat → Nat → Int) (t0 : Int), wp_c0_put_12 L K z r A y0 y1 t0  Q → ∀ (H : Heap) (locs : List Loc) (ls : Array Slot), va_P D vwCl (cw_w C L K z r A) H → va_D Ad (cw_w C L K z r A) → va_S Ad s.heap H locs → lv_has ls 6 [(0, .ref y0), (1, .long (hz_l y1))] → W p l e (headSpec wsX0_put ({ frames := 0, cells := 0, slots := 0, locals := 0 } : Room)).room s m (List.toArray [.ref y0, .long (hz_l y1)]) below meth c H locs 0 0 QQ (F0 m 12 ls [.long (hz_l t0)]) := by
    intro z A t0 hw H locs ls hP hD hS hl
    refine lv_lstore_n (lv' := [(3, .long (hz_l t0)), (0, .ref y0), (1, .long (hz_l y1))]) hx hb dX0_put_12 rfl hl (by decide) rfl (fun ls hl => ?_)
    refine lv_aload_n hx hb dX0_put_13 rfl (lv_at hl 1 rfl) ?_
    refine lv_lload_n hx hb dX0_put_14 rfl (lv_at hl 2 rfl) ?_
    refine lv_lconst (v := hz_l 0) hx hb dX0_put_15 (by decide +kernel) ?_
    obtain ⟨h9a, hw⟩ := hw
    refine hz_lcmp_ge (tgt := 24) hx hb dX0_put_16 dX0_put_17 (by decide) h9a ⟨by decide, by decide⟩ (fun c_15 => ?_) (fun c_15 => ?_)
    · have hw := hw.1 c_15
      refine lv_iconst (v := hz_i 0) hx hb dX0_put_24 (by decide +kernel) ?_
      exact L25 z A t0 0 y0 hw H locs ls hP hD hS (lv_sub hl [1, 0] rfl)
    · have hw := hw.2 c_15
      refine lv_iconst (v := hz_i 1) hx hb dX0_put_20 (by decide +kernel) ?_
      refine lv_goto (tgt := 25) hx hb dX0_put_21 (by decide) ?_
      exact L25 z A t0 1 y0 hw H locs ls hP hD hS (lv_sub hl [1, 0] rfl)
  have hP := hP0; have hD := hD0; have hS := hS0; have hl := hl0; have hw := hw0
  obtain ⟨H, hH⟩ : ∃ H : Heap, H = s.heap := ⟨_, rfl⟩
  obtain ⟨locs, hlocs⟩ : ∃ L : List Loc, L = [] := ⟨_, rfl⟩
  rw [← hH] at hP
  have hS : va_S Ad s.heap H locs := by rw [hH, hlocs]; exact hS
  refine mw_HL hH hlocs ?_
  refine lv_lload_n hx hb dX0_put_0 rfl (lv_at hl 1 rfl) ?_
  refine lv_lconst (v := hz_l 0) hx hb dX0_put_1 (by decide +kernel) ?_
  obtain ⟨h9a, hw⟩ := hw
  refine hz_lcmp_ge (tgt := 11) hx hb dX0_put_2 dX0_put_3 (by decide) h9a ⟨by decide, by decide⟩ (fun c_16 => ?_) (fun c_16 => ?_)
  · have hw := hw.1 c_16
    refine lv_lload_n hx hb dX0_put_11 rfl (lv_at hl 1 rfl) ?_
    exact L12 z A y1 hw H locs ls hP hD hS (lv_sub hl [0, 1] rfl)
  · have hw := hw.2 c_16
    refine lv_lload_n hx hb dX0_put_6 rfl (lv_at hl 1 rfl) ?_
    refine hz_lneg hx hb dX0_put_7 ?_
    refine lv_goto (tgt := 12) hx hb dX0_put_8 (by decide) ?_
    exact L12 z A (-y1) hw H locs ls hP hD hS (lv_sub hl [0, 1] rfl)

noncomputable def wp_c0_putProduct_96 (L : List Nat) (K : Nat → cw_K) (z : Nat → Nat → Int) (r : Nat → Nat → Nat) (A : Nat → Nat → Int) (y0 : Nat) (x3 : Int) (t0 : Int) (t1 : Nat) (Q : (Nat → Nat → Int) → (Nat → Nat → Int) → Prop) : Prop := cw_O L K 0 t1 ∧ (t0 = 0 ∨ t0 = 1) ∧ ∀ z_2 : Nat → Nat → Int, z_2 = cw_s z t1 2 t0 → cw_O L K 0 y0 ∧ wp_c0_trim L K z_2 r A y0 x3 (fun z_4 => Q z_4 A)
noncomputable def wp_c0_putProduct_79 (L : List Nat) (K : Nat → cw_K) (z : Nat → Nat → Int) (r : Nat → Nat → Nat) (A : Nat → Nat → Int) (y0 : Nat) (y1 : Nat) (y2 : Nat) (x3 : Int) (Q : (Nat → Nat → Int) → (Nat → Nat → Int) → Prop) : Prop := cw_O L K 0 y1 ∧ cw_O L K 0 y2 ∧ hz_rI (z y1 2) ∧ hz_rI (z y2 2) ∧ ((z y1 2 = z y2 2 → wp_c0_putProduct_96 L K z r A y0 x3 0 y0  Q) ∧ (¬ (z y1 2 = z y2 2) → wp_c0_putProduct_96 L K z r A y0 x3 1 y0  Q))
noncomputable def wp_c0_putProduct_44 (L : List Nat) (K : Nat → cw_K) (z : Nat → Nat → Int) (r : Nat → Nat → Nat) (A : Nat → Nat → Int) (y0 : Nat) (y1 : Nat) (y2 : Nat) (x3 : Int) (x4 : Int) (Q : (Nat → Nat → Int) → (Nat → Nat → Int) → Prop) : Prop := ∀ P44 : (Nat → Nat → Int) → Int → Prop, (∀ (A : Nat → Nat → Int) (x4 : Int), cw_O L K 0 y1 ∧ hz_rI x4 ∧ hz_rI (z y1 1) ∧ ((z y1 1 ≤ x4 → wp_c0_putProduct_79 L K z r A y0 y1 y2 x3  Q) ∧ (¬ (z y1 1 ≤ x4) → hz_rI x4 ∧ hz_rI x3 ∧ ((x3 ≤ x4 → wp_c0_putProduct_79 L K z r A y0 y1 y2 x3  Q) ∧ (¬ (x3 ≤ x4) → wp_c0_digit L K z r A y1 x4 (fun rv_12 => cw_O L K 0 y0 ∧ wp_c0_addMultiple L K z r A y0 y2 rv_12 x4 x3 (fun A_14 => ∀ x4_16 : Int, x4_16 = x4 + 1 → P44 A_14 x4_16)))))) → P44 A x4) → P44 A x4
noncomputable def wp_c0_putProduct_21 (L : List Nat) (K : Nat → cw_K) (z : Nat → Nat → Int) (r : Nat → Nat → Nat) (A : Nat → Nat → Int) (y0 : Nat) (y1 : Nat) (y2 : Nat) (x3 : Int) (x4 : Int) (Q : (Nat → Nat → Int) → (Nat → Nat → Int) → Prop) : Prop := ∀ P21 : (Nat → Nat → Int) → Int → Prop, (∀ (A : Nat → Nat → Int) (x4 : Int), hz_rI x4 ∧ hz_rI x3 ∧ ((x3 ≤ x4 → wp_c0_putProduct_44 L K z r A y0 y1 y2 x3 0  Q) ∧ (¬ (x3 ≤ x4) → cw_O L K 0 y0 ∧ cw_A L K 0 (r y0 0) ∧ ((0 : Int) ≤ x4 ∧ x4 < (cw_n K (r y0 0) : Int)) ∧ ∀ A_20 : Nat → Nat → Int, A_20 = hz_s A (r y0 0) x4 0 → ∀ x4_21 : Int, x4_21 = x4 + 1 → P21 A_20 x4_21)) → P21 A x4) → P21 A x4
noncomputable def wp_c0_putProduct (L : List Nat) (K : Nat → cw_K) (z : Nat → Nat → Int) (r : Nat → Nat → Nat) (A : Nat → Nat → Int) (y0 : Nat) (y1 : Nat) (y2 : Nat) (Q : (Nat → Nat → Int) → (Nat → Nat → Int) → Prop) : Prop := cw_O L K 0 y1 ∧ cw_O L K 0 y2 ∧ cw_O L K 0 y0 ∧ cw_A L K 0 (r y0 0) ∧ hz_rI ((z y1 1) + (z y2 1)) ∧ hz_rI (cw_n K (r y0 0) : Int) ∧ ∀ x9_26 : Int, x9_26 = min ((z y1 1) + (z y2 1)) (cw_n K (r y0 0) : Int) → wp_c0_putProduct_21 L K z r A y0 y1 y2 x9_26 0  Q
set_option maxHeartbeats 4000000 in
set_option maxRecDepth 100000 in
theorem k_c0_putProduct (l : Launch) (D : va_G) (sz : Nat) (C : Nat → ClassId) (L : List Nat) (K : Nat → cw_K) (z : Nat → Nat → Int) (r : Nat → Nat → Nat) (A : Nat → Nat → Int) (y0 : Nat) (y1 : Nat) (y2 : Nat) (Q : (Nat → Nat → Int) → (Nat → Nat → Int) → Prop) (hw : wp_c0_putProduct L K z r A y0 y1 y2 Q) : Met l yX0_putProduct wsX0_putProduct ({ frames := 2, cells := 0, slots := 0, locals := 49 } : Room) (va_Pc [.ref y0, .ref y1, .ref y2] (hm_P D (cw_w C L K z r A) (cw_t C) sz)) (va_Qv (S := Int × (Nat → Nat → Int) × (Nat → Nat → Nat) × (Nat → Nat → Int)) (fun u => Q u.2.1 u.2.2.2) (fun u t => hm_B D (va_A (cw_w C L K z r A) sz) (cw_w C L K u.2.1 r u.2.2.2) (cw_t C) t) (va_A (cw_w C L K z r A) sz)) 0 0 (va_A (cw_w C L K z r A) sz) := by
  refine Met.ofW (cc := cX0_putProduct) (maxL := 5) (ret := none) (by decide) rfl ?_
  intro p e s m args below meth c s₁ B hml hv
  obtain ⟨rfl, hsz, hP, hK, hD0, hE⟩ := hv
  have hx := B.exec
  have hb := B.bytes
  have hr := B.returns
  have hts := atoms_spec (ws := wsX0_putProduct) B.pre
  have hown : s.vm.findClass RX0 = some m.cls := findClass_of_methodNamed B.named
  have hlocks := B.notSynchronized
  have hin0 : ∀ w ∈ u_ws RX0 TX0 3, w ∈ wsX0_putProduct := fun w h => List.mem_cons_of_mem _ (List.mem_append_right _ (h))
  subst hsz
  have hD := hD0.self (sz := s.heap.size)
  generalize hAe : va_A (cw_w C L K z r A) s.heap.size = Ad at hD ⊢
  have hA : ∀ q : Nat, s.heap.size ≤ q → Ad q := fun q h => by rw [← hAe]; exact Or.inr h
  have hS : va_S Ad s.heap s.heap [] := va_S.rf
  have hl := lv_entry ([.ref y0, .ref y1, .ref y2]) (n := 5) (Nat.le_of_ble_eq_true rfl)
  rw [lg_entry_eq]
  generalize (lg_sl ([.ref y0, .ref y1, .ref y2]) ++ List.replicate (5 - (lg_sl ([.ref y0, .ref y1, .ref y2])).length) Slot.unset).toArray = ls at hl ⊢
  have hl : lv_has ls 5 [(0, .ref y0), (1, .ref y1), (2, .ref y2)] := hl
  refine mw_Q (fun QQ hQQ => ?_)
  have hP0 := hP; have hD0 := hD; have hS0 := hS; have hl0 := hl; have hw0 := hw
  clear hP hD hS hl hw
  have L96 : ∀ (z : Nat → Nat → Int) (A : Nat → Nat → Int) (x3 : Int) (t0 : Int) (t1 : Nat), wp_c0_putProduct_96 L K z r A y0 x3 t0 t1  Q → ∀ (H : Heap) (locs : List Loc) (ls : Array Slot), va_P D vwCl (cw_w C L K z r A) H → va_D Ad (cw_w C L K z r A) → va_S Ad s.heap H locs → lv_has ls 5 [(0, .ref y0), (3, .int (hz_i x3))] → W p l e (headSpec wsX0_putProduct ({ frames := 2, cells := 0, slots := 0, locals := 49 } : Room)).room s m (List.toArray [.ref y0, .ref y1, .ref y2]) below meth c H locs 0 0 QQ (F0 m 96 ls [.int (hz_i t0), .ref t1]) := by
    intro z A x3 t0 t1 hw H locs ls hP hD hS hl
    obtain ⟨hO_1, hw⟩ := hw
    obtain ⟨h9z, hw⟩ := hw
    refine cw_putz (ci := 0) (ty := .boolean) (v := .int (hz_i t0)) (x := t0) hx hb hts hin0 tyX0 tyX0_ok nmX0 hown hK hP hD hS hO_1.1 hO_1.2 rfl 2 (by decide) (hts (.fieldLink RX0 13 "HiddenMoves$Big" "below" "Z") (List.mem_cons_of_mem _ (List.mem_append_left _ (List.mem_of_getElem? (i := 6) rfl)))) (fun _ h9 => h9) rfl (by decide +kernel) (hz_tZ h9z) (hz_fZ h9z) (Nat.le_of_ble_eq_true rfl) (cw_z0_2 _ _ _) dX0_putProduct_96 (fun H locs hP hD hS => ?_)
    obtain ⟨z_2, hz_2⟩ : ∃ y : Nat → Nat → Int, y = cw_s z t1 2 t0 := ⟨_, rfl⟩
    rw [← hz_2] at hP hD
    have hw := hw z_2 hz_2
    refine lv_aload_n hx hb dX0_putProduct_99 rfl (lv_at hl 0 rfl) ?_
    refine lv_iload_n hx hb dX0_putProduct_100 rfl (lv_at hl 1 rfl) ?_
    obtain ⟨hO_5, hw⟩ := hw
    have hFc := cw_free hD hS hA
    obtain ⟨q9, hq9⟩ := cw_at (C := C) (z := z_2) (r := r) (A := A) hO_5.1 hO_5.2
    refine va_callv (va_runV (As := [.int (hz_i x3)]) (rest := []) ⟨hx, hb, hml, hown, hts⟩ (k_c0_trim l D _ C L K z_2 r A y0 x3 _ hw) (cwV 1 hts gX0_putProduct_X0_trim rfl rfl rfl (by decide +kernel) ⟨Nat.le_of_ble_eq_true rfl, Nat.le_of_ble_eq_true rfl⟩) ⟨hm_blind, va_recv hK hP (ci := 0) (q0 := q9) rfl hq9, hm_pre hP hK hD hE⟩ rfl rfl hl.1 rfl (lv_room (Nat.le_of_ble_eq_true rfl)) dX0_putProduct_101 ⟨Nat.le_of_ble_eq_true rfl, Nat.le_of_ble_eq_true rfl⟩) hS (fun q _ h => hFc q h) hFc (fun u t H1 locs ht hvm hw hB hz1 hk1 hS => ?_)
    obtain ⟨rv_3, z_4, _, _⟩ := u
    obtain ⟨hP, hK1, hD1⟩ := hB
    rw [ht] at hP
    have hD := hD1.weaken (fun k q _ h => hFc q.1 h)
    have hP : va_P D vwCl (cw_w C L K z_4 r A) H1 := hP
    have hD : va_D Ad (cw_w C L K z_4 r A) := hD
    generalize H1 = H at hP hS ⊢
    refine W.eq (g2 := F0 m 104 ls []) rfl ?_
    subst hQQ
    subst hAe
    exact W.vret hx hb hr (fun t ht hW => ⟨⟨(0, z_4, r, A), rfl, hw, by rw [ht]; exact hP, va_K.moved hW.alike hK, hD⟩, hS.F ht⟩) hS.2.2 dX0_putProduct_104
  have L79 : ∀ (z : Nat → Nat → Int) (A : Nat → Nat → Int) (x3 : Int), wp_c0_putProduct_79 L K z r A y0 y1 y2 x3  Q → ∀ (H : Heap) (locs : List Loc) (ls : Array Slot), va_P D vwCl (cw_w C L K z r A) H → va_D Ad (cw_w C L K z r A) → va_S Ad s.heap H locs → lv_has ls 5 [(0, .ref y0), (1, .ref y1), (2, .ref y2), (3, .int (hz_i x3))] → W p l e (headSpec wsX0_putProduct ({ frames := 2, cells := 0, slots := 0, locals := 49 } : Room)).room s m (List.toArray [.ref y0, .ref y1, .ref y2]) below meth c H locs 0 0 QQ (F0 m 79 ls []) := by
    intro z A x3 hw H locs ls hP hD hS hl
    refine lv_aload_n hx hb dX0_putProduct_79 rfl (lv_at hl 0 rfl) ?_
    refine lv_aload_n hx hb dX0_putProduct_80 rfl (lv_at hl 1 rfl) ?_
    obtain ⟨hO_6, hw⟩ := hw
    refine cw_get (ci := 0) (v := .int (hz_i (z y1 2))) hx hb hts hin0 hown hK hP hO_6.1 hO_6.2 rfl 2 (by decide) (hts (.fieldLink RX0 13 "HiddenMoves$Big" "below" "Z") (List.mem_cons_of_mem _ (List.mem_append_left _ (List.mem_of_getElem? (i := 6) rfl)))) (fun _ h9 => h9) rfl dX0_putProduct_81 ?_
    refine lv_aload_n hx hb dX0_putProduct_84 rfl (lv_at hl 2 rfl) ?_
    obtain ⟨hO_7, hw⟩ := hw
    refine cw_get (ci := 0) (v := .int (hz_i (z y2 2))) hx hb hts hin0 hown hK hP hO_7.1 hO_7.2 rfl 2 (by decide) (hts (.fieldLink RX0 13 "HiddenMoves$Big" "below" "Z") (List.mem_cons_of_mem _ (List.mem_append_left _ (List.mem_of_getElem? (i := 6) rfl)))) (fun _ h9 => h9) rfl dX0_putProduct_85 ?_
    obtain ⟨h9a, hw⟩ := hw
    obtain ⟨h9b, hw⟩ := hw
    refine hz_icmp_eq (tgt := 95) hx hb dX0_putProduct_88 (by decide) h9a h9b (fun c_8 => ?_) (fun c_8 => ?_)
    · have hw := hw.1 c_8
      refine lv_iconst (v := hz_i 0) hx hb dX0_putProduct_95 (by decide +kernel) ?_
      exact L96 z A x3 0 y0 hw H locs ls hP hD hS (lv_sub hl [0, 3] rfl)
    · have hw := hw.2 c_8
      refine lv_iconst (v := hz_i 1) hx hb dX0_putProduct_91 (by decide +kernel) ?_
      refine lv_goto (tgt := 96) hx hb dX0_putProduct_92 (by decide) ?_
      exact L96 z A x3 1 y0 hw H locs ls hP hD hS (lv_sub hl [0, 3] rfl)
  have L44 : ∀ (z : Nat → Nat → Int) (A : Nat → Nat → Int) (x3 : Int) (x4 : Int), wp_c0_putProduct_44 L K z r A y0 y1 y2 x3 x4  Q → ∀ (H : Heap) (locs : List Loc) (ls : Array Slot), va_P D vwCl (cw_w C L K z r A) H → va_D Ad (cw_w C L K z r A) → va_S Ad s.heap H locs → lv_has ls 5 [(0, .ref y0), (1, .ref y1), (2, .ref y2), (3, .int (hz_i x3)), (4, .int (hz_i x4))] → W p l e (headSpec wsX0_putProduct ({ frames := 2, cells := 0, slots := 0, locals := 49 } : Room)).room s m (List.toArray [.ref y0, .ref y1, .ref y2]) below meth c H locs 0 0 QQ (F0 m 44 ls []) := by
    intro z A x3 x4 hw
    obtain ⟨P44, hP44⟩ : ∃ P : (Nat → Nat → Int) → Int → Prop, ∀ (A : Nat → Nat → Int) (x4 : Int), P A x4 ↔ (∀ (H : Heap) (locs : List Loc) (ls : Array Slot), va_P D vwCl (cw_w C L K z r A) H → va_D Ad (cw_w C L K z r A) → va_S Ad s.heap H locs → lv_has ls 5 [(0, .ref y0), (1, .ref y1), (2, .ref y2), (3, .int (hz_i x3)), (4, .int (hz_i x4))] → W p l e (headSpec wsX0_putProduct ({ frames := 2, cells := 0, slots := 0, locals := 49 } : Room)).room s m (List.toArray [.ref y0, .ref y1, .ref y2]) below meth c H locs 0 0 QQ (F0 m 44 ls [])) := ⟨fun (A : Nat → Nat → Int) (x4 : Int) => ∀ (H : Heap) (locs : List Loc) (ls : Array Slot), va_P D vwCl (cw_w C L K z r A) H → va_D Ad (cw_w C L K z r A) → va_S Ad s.heap H locs → lv_has ls 5 [(0, .ref y0), (1, .ref y1), (2, .ref y2), (3, .int (hz_i x3)), (4, .int (hz_i x4))] → W p l e (headSpec wsX0_putProduct ({ frames := 2, cells := 0, slots := 0, locals := 49 } : Room)).room s m (List.toArray [.ref y0, .ref y1, .ref y2]) below meth c H locs 0 0 QQ (F0 m 44 ls []), fun _ _ => Iff.rfl⟩
    refine (hP44 A x4).mp (hw P44 ?_)
    intro A x4 hw
    refine (hP44 A x4).mpr ?_
    intro H locs ls hP hD hS hl
    refine lv_iload hx hb dX0_putProduct_44 (lv_at hl 4 rfl) ?_
    refine lv_aload_n hx hb dX0_putProduct_46 rfl (lv_at hl 1 rfl) ?_
    obtain ⟨hO_9, hw⟩ := hw
    refine cw_get (ci := 0) (v := .int (hz_i (z y1 1))) hx hb hts hin0 hown hK hP hO_9.1 hO_9.2 rfl 1 (by decide) (hts (.fieldLink RX0 7 "HiddenMoves$Big" "length" "I") (List.mem_cons_of_mem _ (List.mem_append_left _ (List.mem_of_getElem? (i := 0) rfl)))) (fun _ h9 => h9) rfl dX0_putProduct_47 ?_
    obtain ⟨h9a, hw⟩ := hw
    obtain ⟨h9b, hw⟩ := hw
    refine hz_icmp_ge (tgt := 79) hx hb dX0_putProduct_50 (by decide) h9a h9b (fun c_10 => ?_) (fun c_10 => ?_)
    · have hw := hw.1 c_10
      exact L79 z A x3 hw H locs ls hP hD hS (lv_sub hl [0, 1, 2, 3] rfl)
    · have hw := hw.2 c_10
      refine lv_iload hx hb dX0_putProduct_53 (lv_at hl 4 rfl) ?_
      refine lv_iload_n hx hb dX0_putProduct_55 rfl (lv_at hl 3 rfl) ?_
      obtain ⟨h9a, hw⟩ := hw
      obtain ⟨h9b, hw⟩ := hw
      refine hz_icmp_ge (tgt := 79) hx hb dX0_putProduct_56 (by decide) h9a h9b (fun c_11 => ?_) (fun c_11 => ?_)
      · have hw := hw.1 c_11
        exact L79 z A x3 hw H locs ls hP hD hS (lv_sub hl [0, 1, 2, 3] rfl)
      · have hw := hw.2 c_11
        refine lv_aload_n hx hb dX0_putProduct_59 rfl (lv_at hl 0 rfl) ?_
        refine lv_aload_n hx hb dX0_putProduct_60 rfl (lv_at hl 2 rfl) ?_
        refine lv_aload_n hx hb dX0_putProduct_61 rfl (lv_at hl 1 rfl) ?_
        refine lv_iload hx hb dX0_putProduct_62 (lv_at hl 4 rfl) ?_
        have hFc := cw_free hD hS hA
        obtain ⟨q9, hq9⟩ := cw_at (C := C) (z := z) (r := r) (A := A) hO_9.1 hO_9.2
        refine va_calll (va_runV (As := [.int (hz_i x4)]) (rest := [.ref y2, .ref y0]) ⟨hx, hb, hml, hown, hts⟩ (k_c0_digit l D _ C L K z r A y1 x4 _ hw) (cwV 1 hts gX0_putProduct_X0_digit rfl rfl rfl (by decide +kernel) ⟨Nat.le_of_ble_eq_true rfl, Nat.le_of_ble_eq_true rfl⟩) ⟨hm_blind, va_recv hK hP (ci := 0) (q0 := q9) rfl hq9, hm_pre hP hK hD hE⟩ rfl rfl hl.1 rfl (lv_room (Nat.le_of_ble_eq_true rfl)) dX0_putProduct_64 ⟨Nat.le_of_ble_eq_true rfl, Nat.le_of_ble_eq_true rfl⟩) hS (fun q _ h => hFc q h) hFc (fun rv u t H1 locs ht hvm hw hB hz1 hk1 hS => ?_)
        obtain ⟨rv_12, _, _, _⟩ := u
        obtain ⟨hP, hK1, hD1⟩ := hB
        rw [ht] at hP
        obtain ⟨hrv, hw⟩ := hw
        subst hrv
        have hD := hD1.weaken (fun k q _ h => hFc q.1 h)
        have hP : va_P D vwCl (cw_w C L K z r A) H1 := hP
        have hD : va_D Ad (cw_w C L K z r A) := hD
        generalize H1 = H at hP hS ⊢
        refine W.eq (g2 := F0 m 67 ls [.long (hz_l rv_12), .ref y2, .ref y0]) rfl ?_
        refine lv_iload hx hb dX0_putProduct_67 (lv_at hl 4 rfl) ?_
        refine lv_iload_n hx hb dX0_putProduct_69 rfl (lv_at hl 3 rfl) ?_
        obtain ⟨hO_15, hw⟩ := hw
        have hFc := cw_free hD hS hA
        obtain ⟨q9, hq9⟩ := cw_at (C := C) (z := z) (r := r) (A := A) hO_15.1 hO_15.2
        refine va_callv (va_runV (As := [.ref y2, .long (hz_l rv_12), .int (hz_i x4), .int (hz_i x3)]) (rest := []) ⟨hx, hb, hml, hown, hts⟩ (k_c0_addMultiple l D _ C L K z r A y0 y2 rv_12 x4 x3 _ hw) (cwV 4 hts gX0_putProduct_X0_addMultiple rfl rfl rfl (by decide +kernel) ⟨Nat.le_of_ble_eq_true rfl, Nat.le_of_ble_eq_true rfl⟩) ⟨hm_blind, va_recv hK hP (ci := 0) (q0 := q9) rfl hq9, hm_pre hP hK hD hE⟩ rfl rfl hl.1 rfl (lv_room (Nat.le_of_ble_eq_true rfl)) dX0_putProduct_70 ⟨Nat.le_of_ble_eq_true rfl, Nat.le_of_ble_eq_true rfl⟩) hS (fun q _ h => hFc q h) hFc (fun u t H1 locs ht hvm hw hB hz1 hk1 hS => ?_)
        obtain ⟨rv_13, _, _, A_14⟩ := u
        obtain ⟨hP, hK1, hD1⟩ := hB
        rw [ht] at hP
        have hD := hD1.weaken (fun k q _ h => hFc q.1 h)
        have hP : va_P D vwCl (cw_w C L K z r A_14) H1 := hP
        have hD : va_D Ad (cw_w C L K z r A_14) := hD
        generalize H1 = H at hP hS ⊢
        refine W.eq (g2 := F0 m 73 ls []) rfl ?_
        obtain ⟨x4_16, hx4_16⟩ : ∃ y : Int, y = x4 + 1 := ⟨_, rfl⟩
        have hw := hw x4_16 hx4_16
        refine lv_iinc (v := hz_i x4_16) (lv' := [(4, .int (hz_i x4_16)), (0, .ref y0), (1, .ref y1), (2, .ref y2), (3, .int (hz_i x3))]) hx hb dX0_putProduct_73 hl (k := 4) rfl (by rw [hx4_16]; exact hz_i_add _ _) (by decide) rfl (fun ls hl => ?_)
        refine lv_goto (tgt := 44) hx hb dX0_putProduct_76 (by decide) ?_
        exact (hP44 A_14 x4_16).mp hw H locs ls hP hD hS (lv_sub hl [1, 2, 3, 4, 0] rfl)
  have L21 : ∀ (z : Nat → Nat → Int) (A : Nat → Nat → Int) (x3 : Int) (x4 : Int), wp_c0_putProduct_21 L K z r A y0 y1 y2 x3 x4  Q → ∀ (H : Heap) (locs : List Loc) (ls : Array Slot), va_P D vwCl (cw_w C L K z r A) H → va_D Ad (cw_w C L K z r A) → va_S Ad s.heap H locs → lv_has ls 5 [(0, .ref y0), (1, .ref y1), (2, .ref y2), (3, .int (hz_i x3)), (4, .int (hz_i x4))] → W p l e (headSpec wsX0_putProduct ({ frames := 2, cells := 0, slots := 0, locals := 49 } : Room)).room s m (List.toArray [.ref y0, .ref y1, .ref y2]) below meth c H locs 0 0 QQ (F0 m 21 ls []) := by
    intro z A x3 x4 hw
    obtain ⟨P21, hP21⟩ : ∃ P : (Nat → Nat → Int) → Int → Prop, ∀ (A : Nat → Nat → Int) (x4 : Int), P A x4 ↔ (∀ (H : Heap) (locs : List Loc) (ls : Array Slot), va_P D vwCl (cw_w C L K z r A) H → va_D Ad (cw_w C L K z r A) → va_S Ad s.heap H locs → lv_has ls 5 [(0, .ref y0), (1, .ref y1), (2, .ref y2), (3, .int (hz_i x3)), (4, .int (hz_i x4))] → W p l e (headSpec wsX0_putProduct ({ frames := 2, cells := 0, slots := 0, locals := 49 } : Room)).room s m (List.toArray [.ref y0, .ref y1, .ref y2]) below meth c H locs 0 0 QQ (F0 m 21 ls [])) := ⟨fun (A : Nat → Nat → Int) (x4 : Int) => ∀ (H : Heap) (locs : List Loc) (ls : Array Slot), va_P D vwCl (cw_w C L K z r A) H → va_D Ad (cw_w C L K z r A) → va_S Ad s.heap H locs → lv_has ls 5 [(0, .ref y0), (1, .ref y1), (2, .ref y2), (3, .int (hz_i x3)), (4, .int (hz_i x4))] → W p l e (headSpec wsX0_putProduct ({ frames := 2, cells := 0, slots := 0, locals := 49 } : Room)).room s m (List.toArray [.ref y0, .ref y1, .ref y2]) below meth c H locs 0 0 QQ (F0 m 21 ls []), fun _ _ => Iff.rfl⟩
    refine (hP21 A x4).mp (hw P21 ?_)
    intro A x4 hw
    refine (hP21 A x4).mpr ?_
    intro H locs ls hP hD hS hl
    refine lv_iload hx hb dX0_putProduct_21 (lv_at hl 4 rfl) ?_
    refine lv_iload_n hx hb dX0_putProduct_23 rfl (lv_at hl 3 rfl) ?_
    obtain ⟨h9a, hw⟩ := hw
    obtain ⟨h9b, hw⟩ := hw
    refine hz_icmp_ge (tgt := 41) hx hb dX0_putProduct_24 (by decide) h9a h9b (fun c_17 => ?_) (fun c_17 => ?_)
    · have hw := hw.1 c_17
      refine lv_iconst (v := hz_i 0) hx hb dX0_putProduct_41 (by decide +kernel) ?_
      refine lv_istore (lv' := [(4, .int (hz_i 0)), (0, .ref y0), (1, .ref y1), (2, .ref y2), (3, .int (hz_i x3))]) hx hb dX0_putProduct_42 hl (by decide) rfl (fun ls hl => ?_)
      exact L44 z A x3 0 hw H locs ls hP hD hS (lv_sub hl [1, 2, 3, 4, 0] rfl)
    · have hw := hw.2 c_17
      refine lv_aload_n hx hb dX0_putProduct_27 rfl (lv_at hl 0 rfl) ?_
      obtain ⟨hO_18, hw⟩ := hw
      refine cw_get (ci := 0) (v := .ref (r y0 0)) hx hb hts hin0 hown hK hP hO_18.1 hO_18.2 rfl 0 (by decide) (hts (.fieldLink RX0 17 "HiddenMoves$Big" "digits" "[I") (List.mem_cons_of_mem _ (List.mem_append_left _ (List.mem_of_getElem? (i := 1) rfl)))) (fun _ h9 => h9) rfl dX0_putProduct_28 ?_
      refine lv_iload hx hb dX0_putProduct_31 (lv_at hl 4 rfl) ?_
      refine lv_iconst (v := hz_i 0) hx hb dX0_putProduct_33 (by decide +kernel) ?_
      obtain ⟨hO_19, hw⟩ := hw
      obtain ⟨h9i, hw⟩ := hw
      refine cw_ist (v := 0) hx hb hK hP hD hS hO_19.1 hO_19.2.2 h9i hO_19.2.1 dX0_putProduct_34 (fun H locs hP hD hS => ?_)
      obtain ⟨A_20, hA_20⟩ : ∃ y : Nat → Nat → Int, y = hz_s A (r y0 0) x4 0 := ⟨_, rfl⟩
      rw [← hA_20] at hP hD
      have hw := hw A_20 hA_20
      obtain ⟨x4_21, hx4_21⟩ : ∃ y : Int, y = x4 + 1 := ⟨_, rfl⟩
      have hw := hw x4_21 hx4_21
      refine lv_iinc (v := hz_i x4_21) (lv' := [(4, .int (hz_i x4_21)), (0, .ref y0), (1, .ref y1), (2, .ref y2), (3, .int (hz_i x3))]) hx hb dX0_putProduct_35 hl (k := 4) rfl (by rw [hx4_21]; exact hz_i_add _ _) (by decide) rfl (fun ls hl => ?_)
      refine lv_goto (tgt := 21) hx hb dX0_putProduct_38 (by decide) ?_
      exact (hP21 A_20 x4_21).mp hw H locs ls hP hD hS (lv_sub hl [1, 2, 3, 4, 0] rfl)
  have hP := hP0; have hD := hD0; have hS := hS0; have hl := hl0; have hw := hw0
  obtain ⟨H, hH⟩ : ∃ H : Heap, H = s.heap := ⟨_, rfl⟩
  obtain ⟨locs, hlocs⟩ : ∃ L : List Loc, L = [] := ⟨_, rfl⟩
  rw [← hH] at hP
  have hS : va_S Ad s.heap H locs := by rw [hH, hlocs]; exact hS
  refine mw_HL hH hlocs ?_
  refine lv_aload_n hx hb dX0_putProduct_0 rfl (lv_at hl 1 rfl) ?_
  obtain ⟨hO_22, hw⟩ := hw
  refine cw_get (ci := 0) (v := .int (hz_i (z y1 1))) hx hb hts hin0 hown hK hP hO_22.1 hO_22.2 rfl 1 (by decide) (hts (.fieldLink RX0 7 "HiddenMoves$Big" "length" "I") (List.mem_cons_of_mem _ (List.mem_append_left _ (List.mem_of_getElem? (i := 0) rfl)))) (fun _ h9 => h9) rfl dX0_putProduct_1 ?_
  refine lv_aload_n hx hb dX0_putProduct_4 rfl (lv_at hl 2 rfl) ?_
  obtain ⟨hO_23, hw⟩ := hw
  refine cw_get (ci := 0) (v := .int (hz_i (z y2 1))) hx hb hts hin0 hown hK hP hO_23.1 hO_23.2 rfl 1 (by decide) (hts (.fieldLink RX0 7 "HiddenMoves$Big" "length" "I") (List.mem_cons_of_mem _ (List.mem_append_left _ (List.mem_of_getElem? (i := 0) rfl)))) (fun _ h9 => h9) rfl dX0_putProduct_5 ?_
  refine hz_iadd hx hb dX0_putProduct_8 ?_
  refine lv_aload_n hx hb dX0_putProduct_9 rfl (lv_at hl 0 rfl) ?_
  obtain ⟨hO_24, hw⟩ := hw
  refine cw_get (ci := 0) (v := .ref (r y0 0)) hx hb hts hin0 hown hK hP hO_24.1 hO_24.2 rfl 0 (by decide) (hts (.fieldLink RX0 17 "HiddenMoves$Big" "digits" "[I") (List.mem_cons_of_mem _ (List.mem_append_left _ (List.mem_of_getElem? (i := 1) rfl)))) (fun _ h9 => h9) rfl dX0_putProduct_10 ?_
  obtain ⟨hO_25, hw⟩ := hw
  refine cw_len hx hb hK hP hO_25.1 hO_25.2.2 rfl dX0_putProduct_13 ?_
  obtain ⟨h9a, hw⟩ := hw
  obtain ⟨h9b, hw⟩ := hw
  refine cw_mmin (x := (z y1 1) + (z y2 1)) (y := (cw_n K (r y0 0) : Int)) hx hb (by rw [hml]; exact hl.1.symm) hown (hts (.methodLink RX0 21 Lib.Math.min.name) (List.mem_cons_of_mem _ (List.mem_append_left _ (List.mem_of_getElem? (i := 2) rfl)))) (hts (.static Lib.Math.min.name) (List.mem_cons_of_mem _ (List.mem_append_left _ (List.mem_of_getElem? (i := 3) rfl)))) (hts (.initialized "java/lang/Math") (List.mem_cons_of_mem _ (List.mem_append_left _ (List.mem_of_getElem? (i := 4) rfl)))) (hts (.code Lib.Math.min.name Lib.Math.min.code 2 (some .int)) (List.mem_cons_of_mem _ (List.mem_append_left _ (List.mem_of_getElem? (i := 5) rfl)))) (Nat.le_of_ble_eq_true rfl) (Nat.le_of_ble_eq_true rfl) (Nat.zero_le _) (Nat.zero_le _) dX0_putProduct_14 h9a h9b (fun x9_26 hx9_26 => ?_)
  have hw := hw x9_26 hx9_26
  refine lv_istore_n (lv' := [(3, .int (hz_i x9_26)), (0, .ref y0), (1, .ref y1), (2, .ref y2)]) hx hb dX0_putProduct_17 rfl hl (by decide) rfl (fun ls hl => ?_)
  refine lv_iconst (v := hz_i 0) hx hb dX0_putProduct_18 (by decide +kernel) ?_
  refine lv_istore (lv' := [(4, .int (hz_i 0)), (3, .int (hz_i x9_26)), (0, .ref y0), (1, .ref y1), (2, .ref y2)]) hx hb dX0_putProduct_19 hl (by decide) rfl (fun ls hl => ?_)
  exact L21 z A x9_26 0 hw H locs ls hP hD hS (lv_sub hl [2, 3, 4, 1, 0] rfl)

noncomputable def wp_c0_scale_83 (L : List Nat) (K : Nat → cw_K) (z : Nat → Nat → Int) (r : Nat → Nat → Nat) (A : Nat → Nat → Int) (y0 : Nat) (x5 : Int) (Q : (Nat → Nat → Int) → (Nat → Nat → Int) → Prop) : Prop := cw_O L K 0 y0 ∧ wp_c0_trim L K z r A y0 x5 (fun z_2 => Q z_2 A)
noncomputable def wp_c0_scale_11 (L : List Nat) (K : Nat → cw_K) (z : Nat → Nat → Int) (r : Nat → Nat → Nat) (A : Nat → Nat → Int) (y0 : Nat) (y1 : Int) (x3 : Int) (x5 : Int) (x6 : Int) (Q : (Nat → Nat → Int) → (Nat → Nat → Int) → Prop) : Prop := ∀ P11 : (Nat → Nat → Int) → Int → Int → Prop, (∀ (A : Nat → Nat → Int) (x3 : Int) (x6 : Int), hz_rI x6 ∧ hz_rI x5 ∧ ((x5 ≤ x6 → hz_rL x3 ∧ ((x3 = 0 → wp_c0_scale_83 L K z r A y0 x5  Q) ∧ (¬ (x3 = 0) → cw_O L K 0 y0 ∧ cw_A L K 0 (r y0 0) ∧ hz_rI x5 ∧ hz_rI (cw_n K (r y0 0) : Int) ∧ (((cw_n K (r y0 0) : Int) ≤ x5 → wp_c0_scale_83 L K z r A y0 x5  Q) ∧ (¬ ((cw_n K (r y0 0) : Int) ≤ x5) → ∀ x9_9 : Int, hz_rI x9_9 → x9_9 % 4294967296 = x3 % 4294967296 → ((0 : Int) ≤ x5 ∧ x5 < (cw_n K (r y0 0) : Int)) ∧ ∀ A_10 : Nat → Nat → Int, A_10 = hz_s A (r y0 0) x5 x9_9 → ∀ x5_11 : Int, x5_11 = x5 + 1 → wp_c0_scale_83 L K z r A_10 y0 x5_11  Q))))) ∧ (¬ (x5 ≤ x6) → cw_O L K 0 y0 ∧ cw_A L K 0 (r y0 0) ∧ ((0 : Int) ≤ x6 ∧ x6 < (cw_n K (r y0 0) : Int)) ∧ hz_rI (A (r y0 0) (x6.toNat)) ∧ ∀ x9_14 : Int, x9_14 = (A (r y0 0) (x6.toNat)) % 4294967296 → ∀ x3_15 : Int, x3_15 = x3 + (y1 * x9_14) → ∀ x9_16 : Int, hz_rI x9_16 → x9_16 % 4294967296 = x3_15 % 4294967296 → ((0 : Int) ≤ x6 ∧ x6 < (cw_n K (r y0 0) : Int)) ∧ ∀ A_17 : Nat → Nat → Int, A_17 = hz_s A (r y0 0) x6 x9_16 → ∀ x9_18 : Int, x9_18 = x3_15 % 18446744073709551616 / 4294967296 → ∀ x6_19 : Int, x6_19 = x6 + 1 → P11 A_17 x9_18 x6_19)) → P11 A x3 x6) → P11 A x3 x6
noncomputable def wp_c0_scale (L : List Nat) (K : Nat → cw_K) (z : Nat → Nat → Int) (r : Nat → Nat → Nat) (A : Nat → Nat → Int) (y0 : Nat) (y1 : Int) (Q : (Nat → Nat → Int) → (Nat → Nat → Int) → Prop) : Prop := cw_O L K 0 y0 ∧ ∀ x5_21 : Int, x5_21 = z y0 1 → wp_c0_scale_11 L K z r A y0 y1 0 x5_21 0  Q
set_option maxHeartbeats 4000000 in
set_option maxRecDepth 100000 in
theorem k_c0_scale (l : Launch) (D : va_G) (sz : Nat) (C : Nat → ClassId) (L : List Nat) (K : Nat → cw_K) (z : Nat → Nat → Int) (r : Nat → Nat → Nat) (A : Nat → Nat → Int) (y0 : Nat) (y1 : Int) (Q : (Nat → Nat → Int) → (Nat → Nat → Int) → Prop) (hw : wp_c0_scale L K z r A y0 y1 Q) : Met l yX0_scale wsX0_scale ({ frames := 1, cells := 0, slots := 0, locals := 21 } : Room) (va_Pc [.ref y0, .long (hz_l y1)] (hm_P D (cw_w C L K z r A) (cw_t C) sz)) (va_Qv (S := Int × (Nat → Nat → Int) × (Nat → Nat → Nat) × (Nat → Nat → Int)) (fun u => Q u.2.1 u.2.2.2) (fun u t => hm_B D (va_A (cw_w C L K z r A) sz) (cw_w C L K u.2.1 r u.2.2.2) (cw_t C) t) (va_A (cw_w C L K z r A) sz)) 0 0 (va_A (cw_w C L K z r A) sz) := by
  refine Met.ofW (cc := cX0_scale) (maxL := 7) (ret := none) (by decide) rfl ?_
  intro p e s m args below meth c s₁ B hml hv
  obtain ⟨rfl, hsz, hP, hK, hD0, hE⟩ := hv
  have hx := B.exec
  have hb := B.bytes
  have hr := B.returns
  have hts := atoms_spec (ws := wsX0_scale) B.pre
  have hown : s.vm.findClass RX0 = some m.cls := findClass_of_methodNamed B.named
  have hlocks := B.notSynchronized
  have hin0 : ∀ w ∈ u_ws RX0 TX0 3, w ∈ wsX0_scale := fun w h => List.mem_cons_of_mem _ (List.mem_append_right _ (h))
  subst hsz
  have hD := hD0.self (sz := s.heap.size)
  generalize hAe : va_A (cw_w C L K z r A) s.heap.size = Ad at hD ⊢
  have hA : ∀ q : Nat, s.heap.size ≤ q → Ad q := fun q h => by rw [← hAe]; exact Or.inr h
  have hS : va_S Ad s.heap s.heap [] := va_S.rf
  have hl := lv_entry ([.ref y0, .long (hz_l y1)]) (n := 7) (Nat.le_of_ble_eq_true rfl)
  rw [lg_entry_eq]
  generalize (lg_sl ([.ref y0, .long (hz_l y1)]) ++ List.replicate (7 - (lg_sl ([.ref y0, .long (hz_l y1)])).length) Slot.unset).toArray = ls at hl ⊢
  have hl : lv_has ls 7 [(0, .ref y0), (1, .long (hz_l y1))] := hl
  refine mw_Q (fun QQ hQQ => ?_)
  have hP0 := hP; have hD0 := hD; have hS0 := hS; have hl0 := hl; have hw0 := hw
  clear hP hD hS hl hw
  have L83 : ∀ (z : Nat → Nat → Int) (A : Nat → Nat → Int) (x5 : Int), wp_c0_scale_83 L K z r A y0 x5  Q → ∀ (H : Heap) (locs : List Loc) (ls : Array Slot), va_P D vwCl (cw_w C L K z r A) H → va_D Ad (cw_w C L K z r A) → va_S Ad s.heap H locs → lv_has ls 7 [(0, .ref y0), (5, .int (hz_i x5))] → W p l e (headSpec wsX0_scale ({ frames := 1, cells := 0, slots := 0, locals := 21 } : Room)).room s m (List.toArray [.ref y0, .long (hz_l y1)]) below meth c H locs 0 0 QQ (F0 m 83 ls []) := by
    intro z A x5 hw H locs ls hP hD hS hl
    refine lv_aload_n hx hb dX0_scale_83 rfl (lv_at hl 0 rfl) ?_
    refine lv_iload hx hb dX0_scale_84 (lv_at hl 1 rfl) ?_
    obtain ⟨hO_3, hw⟩ := hw
    have hFc := cw_free hD hS hA
    obtain ⟨q9, hq9⟩ := cw_at (C := C) (z := z) (r := r) (A := A) hO_3.1 hO_3.2
    refine va_callv (va_runV (As := [.int (hz_i x5)]) (rest := []) ⟨hx, hb, hml, hown, hts⟩ (k_c0_trim l D _ C L K z r A y0 x5 _ hw) (cwV 1 hts gX0_scale_X0_trim rfl rfl rfl (by decide +kernel) ⟨Nat.le_of_ble_eq_true rfl, Nat.le_of_ble_eq_true rfl⟩) ⟨hm_blind, va_recv hK hP (ci := 0) (q0 := q9) rfl hq9, hm_pre hP hK hD hE⟩ rfl rfl hl.1 rfl (lv_room (Nat.le_of_ble_eq_true rfl)) dX0_scale_86 ⟨Nat.le_of_ble_eq_true rfl, Nat.le_of_ble_eq_true rfl⟩) hS (fun q _ h => hFc q h) hFc (fun u t H1 locs ht hvm hw hB hz1 hk1 hS => ?_)
    obtain ⟨rv_1, z_2, _, _⟩ := u
    obtain ⟨hP, hK1, hD1⟩ := hB
    rw [ht] at hP
    have hD := hD1.weaken (fun k q _ h => hFc q.1 h)
    have hP : va_P D vwCl (cw_w C L K z_2 r A) H1 := hP
    have hD : va_D Ad (cw_w C L K z_2 r A) := hD
    generalize H1 = H at hP hS ⊢
    refine W.eq (g2 := F0 m 89 ls []) rfl ?_
    subst hQQ
    subst hAe
    exact W.vret hx hb hr (fun t ht hW => ⟨⟨(0, z_2, r, A), rfl, hw, by rw [ht]; exact hP, va_K.moved hW.alike hK, hD⟩, hS.F ht⟩) hS.2.2 dX0_scale_89
  have L11 : ∀ (z : Nat → Nat → Int) (A : Nat → Nat → Int) (x3 : Int) (x5 : Int) (x6 : Int), wp_c0_scale_11 L K z r A y0 y1 x3 x5 x6  Q → ∀ (H : Heap) (locs : List Loc) (ls : Array Slot), va_P D vwCl (cw_w C L K z r A) H → va_D Ad (cw_w C L K z r A) → va_S Ad s.heap H locs → lv_has ls 7 [(0, .ref y0), (1, .long (hz_l y1)), (3, .long (hz_l x3)), (5, .int (hz_i x5)), (6, .int (hz_i x6))] → W p l e (headSpec wsX0_scale ({ frames := 1, cells := 0, slots := 0, locals := 21 } : Room)).room s m (List.toArray [.ref y0, .long (hz_l y1)]) below meth c H locs 0 0 QQ (F0 m 11 ls []) := by
    intro z A x3 x5 x6 hw
    obtain ⟨P11, hP11⟩ : ∃ P : (Nat → Nat → Int) → Int → Int → Prop, ∀ (A : Nat → Nat → Int) (x3 : Int) (x6 : Int), P A x3 x6 ↔ (∀ (H : Heap) (locs : List Loc) (ls : Array Slot), va_P D vwCl (cw_w C L K z r A) H → va_D Ad (cw_w C L K z r A) → va_S Ad s.heap H locs → lv_has ls 7 [(0, .ref y0), (1, .long (hz_l y1)), (3, .long (hz_l x3)), (5, .int (hz_i x5)), (6, .int (hz_i x6))] → W p l e (headSpec wsX0_scale ({ frames := 1, cells := 0, slots := 0, locals := 21 } : Room)).room s m (List.toArray [.ref y0, .long (hz_l y1)]) below meth c H locs 0 0 QQ (F0 m 11 ls [])) := ⟨fun (A : Nat → Nat → Int) (x3 : Int) (x6 : Int) => ∀ (H : Heap) (locs : List Loc) (ls : Array Slot), va_P D vwCl (cw_w C L K z r A) H → va_D Ad (cw_w C L K z r A) → va_S Ad s.heap H locs → lv_has ls 7 [(0, .ref y0), (1, .long (hz_l y1)), (3, .long (hz_l x3)), (5, .int (hz_i x5)), (6, .int (hz_i x6))] → W p l e (headSpec wsX0_scale ({ frames := 1, cells := 0, slots := 0, locals := 21 } : Room)).room s m (List.toArray [.ref y0, .long (hz_l y1)]) below meth c H locs 0 0 QQ (F0 m 11 ls []), fun _ _ _ => Iff.rfl⟩
    refine (hP11 A x3 x6).mp (hw P11 ?_)
    intro A x3 x6 hw
    refine (hP11 A x3 x6).mpr ?_
    intro H locs ls hP hD hS hl
    refine lv_iload hx hb dX0_scale_11 (lv_at hl 4 rfl) ?_
    refine lv_iload hx hb dX0_scale_13 (lv_at hl 3 rfl) ?_
    obtain ⟨h9a, hw⟩ := hw
    obtain ⟨h9b, hw⟩ := hw
    refine hz_icmp_ge (tgt := 55) hx hb dX0_scale_15 (by decide) h9a h9b (fun c_4 => ?_) (fun c_4 => ?_)
    · have hw := hw.1 c_4
      refine lv_lload_n hx hb dX0_scale_55 rfl (lv_at hl 2 rfl) ?_
      refine lv_lconst (v := hz_l 0) hx hb dX0_scale_56 (by decide +kernel) ?_
      obtain ⟨h9a, hw⟩ := hw
      refine hz_lcmp_eq (tgt := 83) hx hb dX0_scale_57 dX0_scale_58 (by decide) h9a ⟨by decide, by decide⟩ (fun c_5 => ?_) (fun c_5 => ?_)
      · have hw := hw.1 c_5
        exact L83 z A x5 hw H locs ls hP hD hS (lv_sub hl [0, 3] rfl)
      · have hw := hw.2 c_5
        refine lv_iload hx hb dX0_scale_61 (lv_at hl 3 rfl) ?_
        refine lv_aload_n hx hb dX0_scale_63 rfl (lv_at hl 0 rfl) ?_
        obtain ⟨hO_6, hw⟩ := hw
        refine cw_get (ci := 0) (v := .ref (r y0 0)) hx hb hts hin0 hown hK hP hO_6.1 hO_6.2 rfl 0 (by decide) (hts (.fieldLink RX0 17 "HiddenMoves$Big" "digits" "[I") (List.mem_cons_of_mem _ (List.mem_append_left _ (List.mem_of_getElem? (i := 1) rfl)))) (fun _ h9 => h9) rfl dX0_scale_64 ?_
        obtain ⟨hO_7, hw⟩ := hw
        refine cw_len hx hb hK hP hO_7.1 hO_7.2.2 rfl dX0_scale_67 ?_
        obtain ⟨h9a, hw⟩ := hw
        obtain ⟨h9b, hw⟩ := hw
        refine hz_icmp_ge (tgt := 83) hx hb dX0_scale_68 (by decide) h9a h9b (fun c_8 => ?_) (fun c_8 => ?_)
        · have hw := hw.1 c_8
          exact L83 z A x5 hw H locs ls hP hD hS (lv_sub hl [0, 3] rfl)
        · have hw := hw.2 c_8
          refine lv_aload_n hx hb dX0_scale_71 rfl (lv_at hl 0 rfl) ?_
          refine cw_get (ci := 0) (v := .ref (r y0 0)) hx hb hts hin0 hown hK hP hO_6.1 hO_6.2 rfl 0 (by decide) (hts (.fieldLink RX0 17 "HiddenMoves$Big" "digits" "[I") (List.mem_cons_of_mem _ (List.mem_append_left _ (List.mem_of_getElem? (i := 1) rfl)))) (fun _ h9 => h9) rfl dX0_scale_72 ?_
          refine lv_iload hx hb dX0_scale_75 (lv_at hl 3 rfl) ?_
          refine lv_lload_n hx hb dX0_scale_77 rfl (lv_at hl 2 rfl) ?_
          refine cw_l2i hx hb dX0_scale_78 (fun x9_9 hx9_9a hx9_9b => ?_)
          have hw := hw x9_9 hx9_9a hx9_9b
          obtain ⟨h9i, hw⟩ := hw
          refine cw_ist (v := x9_9) hx hb hK hP hD hS hO_7.1 hO_7.2.2 h9i hO_7.2.1 dX0_scale_79 (fun H locs hP hD hS => ?_)
          obtain ⟨A_10, hA_10⟩ : ∃ y : Nat → Nat → Int, y = hz_s A (r y0 0) x5 x9_9 := ⟨_, rfl⟩
          rw [← hA_10] at hP hD
          have hw := hw A_10 hA_10
          obtain ⟨x5_11, hx5_11⟩ : ∃ y : Int, y = x5 + 1 := ⟨_, rfl⟩
          have hw := hw x5_11 hx5_11
          refine lv_iinc (v := hz_i x5_11) (lv' := [(5, .int (hz_i x5_11)), (0, .ref y0), (1, .long (hz_l y1)), (3, .long (hz_l x3)), (6, .int (hz_i x6))]) hx hb dX0_scale_80 hl (k := 3) rfl (by rw [hx5_11]; exact hz_i_add _ _) (by decide) rfl (fun ls hl => ?_)
          exact L83 z A_10 x5_11 hw H locs ls hP hD hS (lv_sub hl [1, 0] rfl)
    · have hw := hw.2 c_4
      refine lv_lload_n hx hb dX0_scale_18 rfl (lv_at hl 2 rfl) ?_
      refine lv_lload_n hx hb dX0_scale_19 rfl (lv_at hl 1 rfl) ?_
      refine lv_aload_n hx hb dX0_scale_20 rfl (lv_at hl 0 rfl) ?_
      obtain ⟨hO_12, hw⟩ := hw
      refine cw_get (ci := 0) (v := .ref (r y0 0)) hx hb hts hin0 hown hK hP hO_12.1 hO_12.2 rfl 0 (by decide) (hts (.fieldLink RX0 17 "HiddenMoves$Big" "digits" "[I") (List.mem_cons_of_mem _ (List.mem_append_left _ (List.mem_of_getElem? (i := 1) rfl)))) (fun _ h9 => h9) rfl dX0_scale_21 ?_
      refine lv_iload hx hb dX0_scale_24 (lv_at hl 4 rfl) ?_
      obtain ⟨hO_13, hw⟩ := hw
      obtain ⟨h9i, hw⟩ := hw
      refine cw_ild hx hb hK hP hO_13.1 hO_13.2.2 h9i hO_13.2.1 dX0_scale_26 ?_
      obtain ⟨h9a, hw⟩ := hw
      refine hz_wi2l hx hb dX0_scale_27 h9a ?_
      refine lv_ldc2 hx hb hown (hts (.constantLong RX0 33 (4294967295)) (List.mem_cons_of_mem _ (List.mem_append_left _ (List.mem_of_getElem? (i := 2) rfl)))) dX0_scale_28 ?_
      refine hz_asl (b := 4294967295) (by decide +kernel) ?_
      refine cw_land (P := 4294967296) hx hb 32 dX0_scale_31 (by decide) (by decide +kernel) (by decide +kernel) (fun x9_14 hx9_14a => ?_)
      have hw := hw x9_14 hx9_14a
      refine hz_lmul hx hb dX0_scale_32 ?_
      refine hz_ladd hx hb dX0_scale_33 ?_
      refine hz_topl (fun x3_15 hx3_15 => ?_)
      have hw := hw x3_15 hx3_15
      refine lv_lstore_n (lv' := [(3, .long (hz_l x3_15)), (0, .ref y0), (1, .long (hz_l y1)), (5, .int (hz_i x5)), (6, .int (hz_i x6))]) hx hb dX0_scale_34 rfl hl (by decide) rfl (fun ls hl => ?_)
      refine lv_aload_n hx hb dX0_scale_35 rfl (lv_at hl 1 rfl) ?_
      refine cw_get (ci := 0) (v := .ref (r y0 0)) hx hb hts hin0 hown hK hP hO_12.1 hO_12.2 rfl 0 (by decide) (hts (.fieldLink RX0 17 "HiddenMoves$Big" "digits" "[I") (List.mem_cons_of_mem _ (List.mem_append_left _ (List.mem_of_getElem? (i := 1) rfl)))) (fun _ h9 => h9) rfl dX0_scale_36 ?_
      refine lv_iload hx hb dX0_scale_39 (lv_at hl 4 rfl) ?_
      refine lv_lload_n hx hb dX0_scale_41 rfl (lv_at hl 0 rfl) ?_
      refine cw_l2i hx hb dX0_scale_42 (fun x9_16 hx9_16a hx9_16b => ?_)
      have hw := hw x9_16 hx9_16a hx9_16b
      obtain ⟨h9i, hw⟩ := hw
      refine cw_ist (v := x9_16) hx hb hK hP hD hS hO_13.1 hO_13.2.2 h9i hO_13.2.1 dX0_scale_43 (fun H locs hP hD hS => ?_)
      obtain ⟨A_17, hA_17⟩ : ∃ y : Nat → Nat → Int, y = hz_s A (r y0 0) x6 x9_16 := ⟨_, rfl⟩
      rw [← hA_17] at hP hD
      have hw := hw A_17 hA_17
      refine lv_lload_n hx hb dX0_scale_44 rfl (lv_at hl 0 rfl) ?_
      refine lv_bipush (v := hz_i 32) hx hb dX0_scale_45 (by decide +kernel) ?_
      refine cw_lushr (P := 4294967296) (d := 32) hx hb dX0_scale_47 (by decide +kernel) (by decide +kernel) (by decide +kernel) (fun x9_18 hx9_18a => ?_)
      have hw := hw x9_18 hx9_18a
      refine lv_lstore_n (lv' := [(3, .long (hz_l x9_18)), (0, .ref y0), (1, .long (hz_l y1)), (5, .int (hz_i x5)), (6, .int (hz_i x6))]) hx hb dX0_scale_48 rfl hl (by decide) rfl (fun ls hl => ?_)
      obtain ⟨x6_19, hx6_19⟩ : ∃ y : Int, y = x6 + 1 := ⟨_, rfl⟩
      have hw := hw x6_19 hx6_19
      refine lv_iinc (v := hz_i x6_19) (lv' := [(6, .int (hz_i x6_19)), (3, .long (hz_l x9_18)), (0, .ref y0), (1, .long (hz_l y1)), (5, .int (hz_i x5))]) hx hb dX0_scale_49 hl (k := 4) rfl (by rw [hx6_19]; exact hz_i_add _ _) (by decide) rfl (fun ls hl => ?_)
      refine lv_goto (tgt := 11) hx hb dX0_scale_52 (by decide) ?_
      exact (hP11 A_17 x9_18 x6_19).mp hw H locs ls hP hD hS (lv_sub hl [2, 3, 1, 4, 0] rfl)
  have hP := hP0; have hD := hD0; have hS := hS0; have hl := hl0; have hw := hw0
  obtain ⟨H, hH⟩ : ∃ H : Heap, H = s.heap := ⟨_, rfl⟩
  obtain ⟨locs, hlocs⟩ : ∃ L : List Loc, L = [] := ⟨_, rfl⟩
  rw [← hH] at hP
  have hS : va_S Ad s.heap H locs := by rw [hH, hlocs]; exact hS
  refine mw_HL hH hlocs ?_
  refine lv_lconst (v := hz_l 0) hx hb dX0_scale_0 (by decide +kernel) ?_
  refine lv_lstore_n (lv' := [(3, .long (hz_l 0)), (0, .ref y0), (1, .long (hz_l y1))]) hx hb dX0_scale_1 rfl hl (by decide) rfl (fun ls hl => ?_)
  refine lv_aload_n hx hb dX0_scale_2 rfl (lv_at hl 1 rfl) ?_
  obtain ⟨hO_20, hw⟩ := hw
  refine cw_get (ci := 0) (v := .int (hz_i (z y0 1))) hx hb hts hin0 hown hK hP hO_20.1 hO_20.2 rfl 1 (by decide) (hts (.fieldLink RX0 7 "HiddenMoves$Big" "length" "I") (List.mem_cons_of_mem _ (List.mem_append_left _ (List.mem_of_getElem? (i := 0) rfl)))) (fun _ h9 => h9) rfl dX0_scale_3 ?_
  refine hz_topi (fun x5_21 hx5_21 => ?_)
  have hw := hw x5_21 hx5_21
  refine lv_istore (lv' := [(5, .int (hz_i x5_21)), (3, .long (hz_l 0)), (0, .ref y0), (1, .long (hz_l y1))]) hx hb dX0_scale_6 hl (by decide) rfl (fun ls hl => ?_)
  refine lv_iconst (v := hz_i 0) hx hb dX0_scale_8 (by decide +kernel) ?_
  refine lv_istore (lv' := [(6, .int (hz_i 0)), (5, .int (hz_i x5_21)), (3, .long (hz_l 0)), (0, .ref y0), (1, .long (hz_l y1))]) hx hb dX0_scale_9 hl (by decide) rfl (fun ls hl => ?_)
  exact L11 z A 0 x5_21 0 hw H locs ls hP hD hS (lv_sub hl [3, 4, 2, 1, 0] rfl)

noncomputable def wp_c0_shiftDown_29 (L : List Nat) (K : Nat → cw_K) (z : Nat → Nat → Int) (r : Nat → Nat → Nat) (A : Nat → Nat → Int) (y0 : Nat) (x2 : Int) (x3 : Int) (x4 : Int) (x5 : Int) (Q : (Nat → Nat → Int) → (Nat → Nat → Int) → Prop) : Prop := ∀ P29 : (Nat → Nat → Int) → Int → Prop, (∀ (A : Nat → Nat → Int) (x5 : Int), hz_rI x5 ∧ hz_rI x4 ∧ ((x4 ≤ x5 → cw_O L K 0 y0 ∧ wp_c0_trim L K z r A y0 x4 (fun z_3 => Q z_3 A)) ∧ (¬ (x4 ≤ x5) → cw_O L K 0 y0 ∧ wp_c0_digit L K z r A y0 (x5 + x2) (fun rv_5 => wp_c0_digit L K z r A y0 ((x5 + x2) + 1) (fun rv_7 => ∀ x9_8 : Int, hz_rL x9_8 → x9_8 % 18446744073709551616 = rv_7 * 4294967296 % 18446744073709551616 → ∀ x9_9 : Int, hz_rL x9_9 → (((0 ≤ rv_5 ∧ rv_5 < 4294967296 ∧ x9_8 % 4294967296 = 0) ∨ (0 ≤ x9_8 ∧ x9_8 < 4294967296 ∧ rv_5 % 4294967296 = 0)) → x9_9 % 18446744073709551616 = (rv_5 + x9_8) % 18446744073709551616) → ∀ x9_10 : Int, hz_rL x9_10 → ((0 ≤ x3 ∧ x3 < 64) → x9_10 % 18446744073709551616 = x9_9 % 18446744073709551616 / 2 ^ x3.toNat) → ∀ x9_11 : Int, hz_rI x9_11 → x9_11 % 4294967296 = x9_10 % 4294967296 → cw_A L K 0 (r y0 0) ∧ ((0 : Int) ≤ x5 ∧ x5 < (cw_n K (r y0 0) : Int)) ∧ ∀ A_13 : Nat → Nat → Int, A_13 = hz_s A (r y0 0) x5 x9_11 → ∀ x5_14 : Int, x5_14 = x5 + 1 → P29 A_13 x5_14)))) → P29 A x5) → P29 A x5
noncomputable def wp_c0_shiftDown (L : List Nat) (K : Nat → cw_K) (z : Nat → Nat → Int) (r : Nat → Nat → Nat) (A : Nat → Nat → Int) (y0 : Nat) (y1 : Int) (Q : (Nat → Nat → Int) → (Nat → Nat → Int) → Prop) : Prop := hz_rI y1 ∧ ∀ x9_15 : Int, x9_15 = y1 / 32 → ∀ x9_16 : Int, x9_16 = y1 % 32 → hz_rI y1 ∧ ((0 < y1 → cw_O L K 0 y0 ∧ hz_rI ((z y0 1) - x9_15) ∧ ∀ x9_19 : Int, x9_19 = max ((z y0 1) - x9_15) 0 → wp_c0_shiftDown_29 L K z r A y0 x9_15 x9_16 x9_19 0  Q) ∧ (¬ (0 < y1) → Q z A))
set_option maxHeartbeats 4000000 in
set_option maxRecDepth 100000 in
theorem k_c0_shiftDown (l : Launch) (D : va_G) (sz : Nat) (C : Nat → ClassId) (L : List Nat) (K : Nat → cw_K) (z : Nat → Nat → Int) (r : Nat → Nat → Nat) (A : Nat → Nat → Int) (y0 : Nat) (y1 : Int) (Q : (Nat → Nat → Int) → (Nat → Nat → Int) → Prop) (hw : wp_c0_shiftDown L K z r A y0 y1 Q) : Met l yX0_shiftDown wsX0_shiftDown ({ frames := 1, cells := 0, slots := 0, locals := 21 } : Room) (va_Pc [.ref y0, .int (hz_i y1)] (hm_P D (cw_w C L K z r A) (cw_t C) sz)) (va_Qv (S := Int × (Nat → Nat → Int) × (Nat → Nat → Nat) × (Nat → Nat → Int)) (fun u => Q u.2.1 u.2.2.2) (fun u t => hm_B D (va_A (cw_w C L K z r A) sz) (cw_w C L K u.2.1 r u.2.2.2) (cw_t C) t) (va_A (cw_w C L K z r A) sz)) 0 0 (va_A (cw_w C L K z r A) sz) := by
  refine Met.ofW (cc := cX0_shiftDown) (maxL := 8) (ret := none) (by decide) rfl ?_
  intro p e s m args below meth c s₁ B hml hv
  obtain ⟨rfl, hsz, hP, hK, hD0, hE⟩ := hv
  have hx := B.exec
  have hb := B.bytes
  have hr := B.returns
  have hts := atoms_spec (ws := wsX0_shiftDown) B.pre
  have hown : s.vm.findClass RX0 = some m.cls := findClass_of_methodNamed B.named
  have hlocks := B.notSynchronized
  have hin0 : ∀ w ∈ u_ws RX0 TX0 3, w ∈ wsX0_shiftDown := fun w h => List.mem_cons_of_mem _ (List.mem_append_right _ (h))
  subst hsz
  have hD := hD0.self (sz := s.heap.size)
  generalize hAe : va_A (cw_w C L K z r A) s.heap.size = Ad at hD ⊢
  have hA : ∀ q : Nat, s.heap.size ≤ q → Ad q := fun q h => by rw [← hAe]; exact Or.inr h
  have hS : va_S Ad s.heap s.heap [] := va_S.rf
  have hl := lv_entry ([.ref y0, .int (hz_i y1)]) (n := 8) (Nat.le_of_ble_eq_true rfl)
  rw [lg_entry_eq]
  generalize (lg_sl ([.ref y0, .int (hz_i y1)]) ++ List.replicate (8 - (lg_sl ([.ref y0, .int (hz_i y1)])).length) Slot.unset).toArray = ls at hl ⊢
  have hl : lv_has ls 8 [(0, .ref y0), (1, .int (hz_i y1))] := hl
  refine mw_Q (fun QQ hQQ => ?_)
  have hP0 := hP; have hD0 := hD; have hS0 := hS; have hl0 := hl; have hw0 := hw
  clear hP hD hS hl hw
  have L29 : ∀ (z : Nat → Nat → Int) (A : Nat → Nat → Int) (x2 : Int) (x3 : Int) (x4 : Int) (x5 : Int), wp_c0_shiftDown_29 L K z r A y0 x2 x3 x4 x5  Q → ∀ (H : Heap) (locs : List Loc) (ls : Array Slot), va_P D vwCl (cw_w C L K z r A) H → va_D Ad (cw_w C L K z r A) → va_S Ad s.heap H locs → lv_has ls 8 [(0, .ref y0), (2, .int (hz_i x2)), (3, .int (hz_i x3)), (4, .int (hz_i x4)), (5, .int (hz_i x5))] → W p l e (headSpec wsX0_shiftDown ({ frames := 1, cells := 0, slots := 0, locals := 21 } : Room)).room s m (List.toArray [.ref y0, .int (hz_i y1)]) below meth c H locs 0 0 QQ (F0 m 29 ls []) := by
    intro z A x2 x3 x4 x5 hw
    obtain ⟨P29, hP29⟩ : ∃ P : (Nat → Nat → Int) → Int → Prop, ∀ (A : Nat → Nat → Int) (x5 : Int), P A x5 ↔ (∀ (H : Heap) (locs : List Loc) (ls : Array Slot), va_P D vwCl (cw_w C L K z r A) H → va_D Ad (cw_w C L K z r A) → va_S Ad s.heap H locs → lv_has ls 8 [(0, .ref y0), (2, .int (hz_i x2)), (3, .int (hz_i x3)), (4, .int (hz_i x4)), (5, .int (hz_i x5))] → W p l e (headSpec wsX0_shiftDown ({ frames := 1, cells := 0, slots := 0, locals := 21 } : Room)).room s m (List.toArray [.ref y0, .int (hz_i y1)]) below meth c H locs 0 0 QQ (F0 m 29 ls [])) := ⟨fun (A : Nat → Nat → Int) (x5 : Int) => ∀ (H : Heap) (locs : List Loc) (ls : Array Slot), va_P D vwCl (cw_w C L K z r A) H → va_D Ad (cw_w C L K z r A) → va_S Ad s.heap H locs → lv_has ls 8 [(0, .ref y0), (2, .int (hz_i x2)), (3, .int (hz_i x3)), (4, .int (hz_i x4)), (5, .int (hz_i x5))] → W p l e (headSpec wsX0_shiftDown ({ frames := 1, cells := 0, slots := 0, locals := 21 } : Room)).room s m (List.toArray [.ref y0, .int (hz_i y1)]) below meth c H locs 0 0 QQ (F0 m 29 ls []), fun _ _ => Iff.rfl⟩
    refine (hP29 A x5).mp (hw P29 ?_)
    intro A x5 hw
    refine (hP29 A x5).mpr ?_
    intro H locs ls hP hD hS hl
    refine lv_iload hx hb dX0_shiftDown_29 (lv_at hl 4 rfl) ?_
    refine lv_iload hx hb dX0_shiftDown_31 (lv_at hl 3 rfl) ?_
    obtain ⟨h9a, hw⟩ := hw
    obtain ⟨h9b, hw⟩ := hw
    refine hz_icmp_ge (tgt := 78) hx hb dX0_shiftDown_33 (by decide) h9a h9b (fun c_1 => ?_) (fun c_1 => ?_)
    · have hw := hw.1 c_1
      refine lv_aload_n hx hb dX0_shiftDown_78 rfl (lv_at hl 0 rfl) ?_
      refine lv_iload hx hb dX0_shiftDown_79 (lv_at hl 3 rfl) ?_
      obtain ⟨hO_4, hw⟩ := hw
      have hFc := cw_free hD hS hA
      obtain ⟨q9, hq9⟩ := cw_at (C := C) (z := z) (r := r) (A := A) hO_4.1 hO_4.2
      refine va_callv (va_runV (As := [.int (hz_i x4)]) (rest := []) ⟨hx, hb, hml, hown, hts⟩ (k_c0_trim l D _ C L K z r A y0 x4 _ hw) (cwV 1 hts gX0_shiftDown_X0_trim rfl rfl rfl (by decide +kernel) ⟨Nat.le_of_ble_eq_true rfl, Nat.le_of_ble_eq_true rfl⟩) ⟨hm_blind, va_recv hK hP (ci := 0) (q0 := q9) rfl hq9, hm_pre hP hK hD hE⟩ rfl rfl hl.1 rfl (lv_room (Nat.le_of_ble_eq_true rfl)) dX0_shiftDown_81 ⟨Nat.le_of_ble_eq_true rfl, Nat.le_of_ble_eq_true rfl⟩) hS (fun q _ h => hFc q h) hFc (fun u t H1 locs ht hvm hw hB hz1 hk1 hS => ?_)
      obtain ⟨rv_2, z_3, _, _⟩ := u
      obtain ⟨hP, hK1, hD1⟩ := hB
      rw [ht] at hP
      have hD := hD1.weaken (fun k q _ h => hFc q.1 h)
      have hP : va_P D vwCl (cw_w C L K z_3 r A) H1 := hP
      have hD : va_D Ad (cw_w C L K z_3 r A) := hD
      generalize H1 = H at hP hS ⊢
      refine W.eq (g2 := F0 m 84 ls []) rfl ?_
      subst hQQ
      subst hAe
      exact W.vret hx hb hr (fun t ht hW => ⟨⟨(0, z_3, r, A), rfl, hw, by rw [ht]; exact hP, va_K.moved hW.alike hK, hD⟩, hS.F ht⟩) hS.2.2 dX0_shiftDown_84
    · have hw := hw.2 c_1
      refine lv_aload_n hx hb dX0_shiftDown_36 rfl (lv_at hl 0 rfl) ?_
      refine lv_iload hx hb dX0_shiftDown_37 (lv_at hl 4 rfl) ?_
      refine lv_iload_n hx hb dX0_shiftDown_39 rfl (lv_at hl 1 rfl) ?_
      refine hz_iadd hx hb dX0_shiftDown_40 ?_
      obtain ⟨hO_6, hw⟩ := hw
      have hFc := cw_free hD hS hA
      obtain ⟨q9, hq9⟩ := cw_at (C := C) (z := z) (r := r) (A := A) hO_6.1 hO_6.2
      refine va_calll (va_runV (As := [.int (hz_i (x5 + x2))]) (rest := []) ⟨hx, hb, hml, hown, hts⟩ (k_c0_digit l D _ C L K z r A y0 (x5 + x2) _ hw) (cwV 1 hts gX0_shiftDown_X0_digit rfl rfl rfl (by decide +kernel) ⟨Nat.le_of_ble_eq_true rfl, Nat.le_of_ble_eq_true rfl⟩) ⟨hm_blind, va_recv hK hP (ci := 0) (q0 := q9) rfl hq9, hm_pre hP hK hD hE⟩ rfl rfl hl.1 rfl (lv_room (Nat.le_of_ble_eq_true rfl)) dX0_shiftDown_41 ⟨Nat.le_of_ble_eq_true rfl, Nat.le_of_ble_eq_true rfl⟩) hS (fun q _ h => hFc q h) hFc (fun rv u t H1 locs ht hvm hw hB hz1 hk1 hS => ?_)
      obtain ⟨rv_5, _, _, _⟩ := u
      obtain ⟨hP, hK1, hD1⟩ := hB
      rw [ht] at hP
      obtain ⟨hrv, hw⟩ := hw
      subst hrv
      have hD := hD1.weaken (fun k q _ h => hFc q.1 h)
      have hP : va_P D vwCl (cw_w C L K z r A) H1 := hP
      have hD : va_D Ad (cw_w C L K z r A) := hD
      generalize H1 = H at hP hS ⊢
      refine W.eq (g2 := F0 m 44 ls [.long (hz_l rv_5)]) rfl ?_
      refine lv_aload_n hx hb dX0_shiftDown_44 rfl (lv_at hl 0 rfl) ?_
      refine lv_iload hx hb dX0_shiftDown_45 (lv_at hl 4 rfl) ?_
      refine lv_iload_n hx hb dX0_shiftDown_47 rfl (lv_at hl 1 rfl) ?_
      refine hz_iadd hx hb dX0_shiftDown_48 ?_
      refine lv_iconst (v := hz_i 1) hx hb dX0_shiftDown_49 (by decide +kernel) ?_
      refine hz_iadd hx hb dX0_shiftDown_50 ?_
      have hFc := cw_free hD hS hA
      obtain ⟨q9, hq9⟩ := cw_at (C := C) (z := z) (r := r) (A := A) hO_6.1 hO_6.2
      refine va_calll (va_runV (As := [.int (hz_i ((x5 + x2) + 1))]) (rest := [.long (hz_l rv_5)]) ⟨hx, hb, hml, hown, hts⟩ (k_c0_digit l D _ C L K z r A y0 ((x5 + x2) + 1) _ hw) (cwV 1 hts gX0_shiftDown_X0_digit rfl rfl rfl (by decide +kernel) ⟨Nat.le_of_ble_eq_true rfl, Nat.le_of_ble_eq_true rfl⟩) ⟨hm_blind, va_recv hK hP (ci := 0) (q0 := q9) rfl hq9, hm_pre hP hK hD hE⟩ rfl rfl hl.1 rfl (lv_room (Nat.le_of_ble_eq_true rfl)) dX0_shiftDown_51 ⟨Nat.le_of_ble_eq_true rfl, Nat.le_of_ble_eq_true rfl⟩) hS (fun q _ h => hFc q h) hFc (fun rv u t H1 locs ht hvm hw hB hz1 hk1 hS => ?_)
      obtain ⟨rv_7, _, _, _⟩ := u
      obtain ⟨hP, hK1, hD1⟩ := hB
      rw [ht] at hP
      obtain ⟨hrv, hw⟩ := hw
      subst hrv
      have hD := hD1.weaken (fun k q _ h => hFc q.1 h)
      have hP : va_P D vwCl (cw_w C L K z r A) H1 := hP
      have hD : va_D Ad (cw_w C L K z r A) := hD
      generalize H1 = H at hP hS ⊢
      refine W.eq (g2 := F0 m 54 ls [.long (hz_l rv_7), .long (hz_l rv_5)]) rfl ?_
      refine lv_bipush (v := hz_i 32) hx hb dX0_shiftDown_54 (by decide +kernel) ?_
      refine cw_lshl (P := 4294967296) (d := 32) hx hb dX0_shiftDown_56 (by decide +kernel) (by decide +kernel) (fun x9_8 hx9_8a hx9_8b => ?_)
      have hw := hw x9_8 hx9_8a hx9_8b
      refine cw_lor hx hb dX0_shiftDown_57 (fun x9_9 hx9_9a hx9_9b => ?_)
      have hw := hw x9_9 hx9_9a hx9_9b
      refine lv_lstore (lv' := [(6, .long (hz_l x9_9)), (0, .ref y0), (2, .int (hz_i x2)), (3, .int (hz_i x3)), (4, .int (hz_i x4)), (5, .int (hz_i x5))]) hx hb dX0_shiftDown_58 hl (by decide) rfl (fun ls hl => ?_)
      refine lv_aload_n hx hb dX0_shiftDown_60 rfl (lv_at hl 1 rfl) ?_
      refine cw_get (ci := 0) (v := .ref (r y0 0)) hx hb hts hin0 hown hK hP hO_6.1 hO_6.2 rfl 0 (by decide) (hts (.fieldLink RX0 17 "HiddenMoves$Big" "digits" "[I") (List.mem_cons_of_mem _ (List.mem_append_left _ (List.mem_of_getElem? (i := 5) rfl)))) (fun _ h9 => h9) rfl dX0_shiftDown_61 ?_
      refine lv_iload hx hb dX0_shiftDown_64 (lv_at hl 5 rfl) ?_
      refine lv_lload hx hb dX0_shiftDown_66 (lv_at hl 0 rfl) ?_
      refine lv_iload_n hx hb dX0_shiftDown_68 rfl (lv_at hl 3 rfl) ?_
      refine cw_lushrv hx hb dX0_shiftDown_69 (fun x9_10 hx9_10a hx9_10b => ?_)
      have hw := hw x9_10 hx9_10a hx9_10b
      refine cw_l2i hx hb dX0_shiftDown_70 (fun x9_11 hx9_11a hx9_11b => ?_)
      have hw := hw x9_11 hx9_11a hx9_11b
      obtain ⟨hO_12, hw⟩ := hw
      obtain ⟨h9i, hw⟩ := hw
      refine cw_ist (v := x9_11) hx hb hK hP hD hS hO_12.1 hO_12.2.2 h9i hO_12.2.1 dX0_shiftDown_71 (fun H locs hP hD hS => ?_)
      obtain ⟨A_13, hA_13⟩ : ∃ y : Nat → Nat → Int, y = hz_s A (r y0 0) x5 x9_11 := ⟨_, rfl⟩
      rw [← hA_13] at hP hD
      have hw := hw A_13 hA_13
      obtain ⟨x5_14, hx5_14⟩ : ∃ y : Int, y = x5 + 1 := ⟨_, rfl⟩
      have hw := hw x5_14 hx5_14
      refine lv_iinc (v := hz_i x5_14) (lv' := [(5, .int (hz_i x5_14)), (6, .long (hz_l x9_9)), (0, .ref y0), (2, .int (hz_i x2)), (3, .int (hz_i x3)), (4, .int (hz_i x4))]) hx hb dX0_shiftDown_72 hl (k := 5) rfl (by rw [hx5_14]; exact hz_i_add _ _) (by decide) rfl (fun ls hl => ?_)
      refine lv_goto (tgt := 29) hx hb dX0_shiftDown_75 (by decide) ?_
      exact (hP29 A_13 x5_14).mp hw H locs ls hP hD hS (lv_sub hl [2, 3, 4, 5, 0] rfl)
  have hP := hP0; have hD := hD0; have hS := hS0; have hl := hl0; have hw := hw0
  obtain ⟨H, hH⟩ : ∃ H : Heap, H = s.heap := ⟨_, rfl⟩
  obtain ⟨locs, hlocs⟩ : ∃ L : List Loc, L = [] := ⟨_, rfl⟩
  rw [← hH] at hP
  have hS : va_S Ad s.heap H locs := by rw [hH, hlocs]; exact hS
  refine mw_HL hH hlocs ?_
  refine lv_iload_n hx hb dX0_shiftDown_0 rfl (lv_at hl 1 rfl) ?_
  refine lv_iconst (v := hz_i 5) hx hb dX0_shiftDown_1 (by decide +kernel) ?_
  obtain ⟨h9a, hw⟩ := hw
  refine cw_ishr (P := 32) (d := 5) hx hb dX0_shiftDown_2 h9a (by decide +kernel) (by decide +kernel) (fun x9_15 hx9_15a => ?_)
  have hw := hw x9_15 hx9_15a
  refine lv_istore_n (lv' := [(2, .int (hz_i x9_15)), (0, .ref y0), (1, .int (hz_i y1))]) hx hb dX0_shiftDown_3 rfl hl (by decide) rfl (fun ls hl => ?_)
  refine lv_iload_n hx hb dX0_shiftDown_4 rfl (lv_at hl 2 rfl) ?_
  refine lv_bipush (v := hz_i 31) hx hb dX0_shiftDown_5 (by decide +kernel) ?_
  refine cw_iand (P := 32) hx hb 5 dX0_shiftDown_7 (by decide) (by decide +kernel) (by decide +kernel) (fun x9_16 hx9_16a => ?_)
  have hw := hw x9_16 hx9_16a
  refine lv_istore_n (lv' := [(3, .int (hz_i x9_16)), (2, .int (hz_i x9_15)), (0, .ref y0), (1, .int (hz_i y1))]) hx hb dX0_shiftDown_8 rfl hl (by decide) rfl (fun ls hl => ?_)
  refine lv_iload_n hx hb dX0_shiftDown_9 rfl (lv_at hl 3 rfl) ?_
  obtain ⟨h9a, hw⟩ := hw
  refine hz_if_gt (tgt := 14) hx hb dX0_shiftDown_10 (by decide) h9a (fun c_17 => ?_) (fun c_17 => ?_)
  · have hw := hw.1 c_17
    refine lv_aload_n hx hb dX0_shiftDown_14 rfl (lv_at hl 2 rfl) ?_
    obtain ⟨hO_18, hw⟩ := hw
    refine cw_get (ci := 0) (v := .int (hz_i (z y0 1))) hx hb hts hin0 hown hK hP hO_18.1 hO_18.2 rfl 1 (by decide) (hts (.fieldLink RX0 7 "HiddenMoves$Big" "length" "I") (List.mem_cons_of_mem _ (List.mem_append_left _ (List.mem_of_getElem? (i := 0) rfl)))) (fun _ h9 => h9) rfl dX0_shiftDown_15 ?_
    refine lv_iload_n hx hb dX0_shiftDown_18 rfl (lv_at hl 1 rfl) ?_
    refine hz_isub hx hb dX0_shiftDown_19 ?_
    refine lv_iconst (v := hz_i 0) hx hb dX0_shiftDown_20 (by decide +kernel) ?_
    obtain ⟨h9a, hw⟩ := hw
    refine cw_mmax (x := (z y0 1) - x9_15) (y := 0) hx hb (by rw [hml]; exact hl.1.symm) hown (hts (.methodLink RX0 72 Lib.Math.max.name) (List.mem_cons_of_mem _ (List.mem_append_left _ (List.mem_of_getElem? (i := 1) rfl)))) (hts (.static Lib.Math.max.name) (List.mem_cons_of_mem _ (List.mem_append_left _ (List.mem_of_getElem? (i := 2) rfl)))) (hts (.initialized "java/lang/Math") (List.mem_cons_of_mem _ (List.mem_append_left _ (List.mem_of_getElem? (i := 3) rfl)))) (hts (.code Lib.Math.max.name Lib.Math.max.code 2 (some .int)) (List.mem_cons_of_mem _ (List.mem_append_left _ (List.mem_of_getElem? (i := 4) rfl)))) (Nat.le_of_ble_eq_true rfl) (Nat.le_of_ble_eq_true rfl) (Nat.zero_le _) (Nat.zero_le _) dX0_shiftDown_21 h9a ⟨by decide, by decide⟩ (fun x9_19 hx9_19 => ?_)
    have hw := hw x9_19 hx9_19
    refine lv_istore (lv' := [(4, .int (hz_i x9_19)), (3, .int (hz_i x9_16)), (2, .int (hz_i x9_15)), (0, .ref y0), (1, .int (hz_i y1))]) hx hb dX0_shiftDown_24 hl (by decide) rfl (fun ls hl => ?_)
    refine lv_iconst (v := hz_i 0) hx hb dX0_shiftDown_26 (by decide +kernel) ?_
    refine lv_istore (lv' := [(5, .int (hz_i 0)), (4, .int (hz_i x9_19)), (3, .int (hz_i x9_16)), (2, .int (hz_i x9_15)), (0, .ref y0), (1, .int (hz_i y1))]) hx hb dX0_shiftDown_27 hl (by decide) rfl (fun ls hl => ?_)
    exact L29 z A x9_15 x9_16 x9_19 0 hw H locs ls hP hD hS (lv_sub hl [4, 3, 2, 1, 0] rfl)
  · have hw := hw.2 c_17
    subst hQQ
    subst hAe
    exact W.vret hx hb hr (fun t ht hW => ⟨⟨(0, z, r, A), rfl, hw, by rw [ht]; exact hP, va_K.moved hW.alike hK, hD⟩, hS.F ht⟩) hS.2.2 dX0_shiftDown_13
