noncomputable def wp_c11_tell_57 (L : List Nat) (K : Nat → cw_K) (z : Nat → Nat → Int) (r : Nat → Nat → Nat) (A : Nat → Nat → Int) (Q : (Nat → Nat → Int) → Prop) (X : String → (Nat → Nat → Int) → Prop) : Prop := X "java/lang/IllegalArgumentException" A
noncomputable def wp_c11_tell_21 (L : List Nat) (K : Nat → cw_K) (z : Nat → Nat → Int) (r : Nat → Nat → Nat) (A : Nat → Nat → Int) (Q : (Nat → Nat → Int) → Prop) (X : String → (Nat → Nat → Int) → Prop) : Prop := X "java/lang/IndexOutOfBoundsException" A
noncomputable def wp_c11_tell (L : List Nat) (K : Nat → cw_K) (z : Nat → Nat → Int) (r : Nat → Nat → Nat) (A : Nat → Nat → Int) (y0 : Nat) (y1 : Int) (y2 : Int) (y3 : Int) (y4 : Int) (y5 : Int) (Q : (Nat → Nat → Int) → Prop) (X : String → (Nat → Nat → Int) → Prop) : Prop := cw_O L K 11 y0 ∧ wp_c11_isPlaying L K z r A y0 y1 (fun rv_1 => hz_rI rv_1 ∧ ((rv_1 = 0 → wp_c11_tell_21 L K z r A  Q X) ∧ (¬ (rv_1 = 0) → wp_c11_sideOf L K z r A y0 y1 (fun rv_4 => cw_O L K 7 rv_4 ∧ wp_c7_hasMove L K z r A rv_4 y2 y3 (fun rv_5 => hz_rI rv_5 ∧ ((¬ rv_5 = 0 → hz_rI y5 ∧ ((y5 < 1 → wp_c11_tell_57 L K z r A  Q X) ∧ (¬ (y5 < 1) → hz_rI y5 ∧ ((9999 < y5 → wp_c11_tell_57 L K z r A  Q X) ∧ (¬ (9999 < y5) → hz_rI y4 ∧ ((y4 < 0 → wp_c11_tell_57 L K z r A  Q X) ∧ (¬ (y4 < 0) → hz_rI y4 ∧ hz_rI y5 ∧ ((y4 ≤ y5 → cw_G L K 9 (r y0 4) ∧ ((0 : Int) ≤ y1 - 1 ∧ y1 - 1 < (cw_n K (r y0 4) : Int)) ∧ cw_O L K 9 (cw_g K (r y0 4) ((y1 - 1).toNat)) ∧ wp_c9_putChance L K z r A (cw_g K (r y0 4) ((y1 - 1).toNat)) y2 y3 y4 y5 (fun A_14 => Q A_14)) ∧ (¬ (y4 ≤ y5) → wp_c11_tell_57 L K z r A  Q X))))))))) ∧ (rv_5 = 0 → wp_c11_tell_21 L K z r A  Q X)))))))
set_option maxHeartbeats 4000000 in
set_option maxRecDepth 100000 in
theorem k_c11_tell (l : Launch) (hlt : l.stackTraces = false) (D : va_G) (sz : Nat) (C : Nat → ClassId) (L : List Nat) (K : Nat → cw_K) (z : Nat → Nat → Int) (r : Nat → Nat → Nat) (A : Nat → Nat → Int) (y0 : Nat) (y1 : Int) (y2 : Int) (y3 : Int) (y4 : Int) (y5 : Int) (Q : (Nat → Nat → Int) → Prop) (X : String → (Nat → Nat → Int) → Prop) (hw : wp_c11_tell L K z r A y0 y1 y2 y3 y4 y5 Q X) : vx_Met l yX11_tell wsX11_tell ({ frames := 6, cells := 1, slots := 6, locals := 90 } : Room) (va_Pc [.ref y0, .int (hz_i y1), .int (hz_i y2), .int (hz_i y3), .int (hz_i y4), .int (hz_i y5)] (hm_PX D (cw_w C L K z r A) (cw_t C) sz)) (va_Qv (S := Int × (Nat → Nat → Int) × (Nat → Nat → Nat) × (Nat → Nat → Int)) (fun u => Q u.2.2.2) (fun u t => hm_B D (va_A (cw_w C L K z r A) sz) (cw_w C L K z r u.2.2.2) (cw_t C) t) (va_A (cw_w C L K z r A) sz)) (vx_X (S := Int × (Nat → Nat → Int) × (Nat → Nat → Nat) × (Nat → Nat → Int)) (fun _ => True) (fun E u t => X E u.2.2.2 ∧ hm_B D (va_A (cw_w C L K z r A) sz) (cw_w C L K z r u.2.2.2) (cw_t C) t) (va_A (cw_w C L K z r A) sz)) 1 6 (va_A (cw_w C L K z r A) sz) := by
  refine vx_ofW (cc := cX11_tell) (maxL := 6) (ret := none) (by decide) rfl ?_
  intro p e s m args below meth c s₁ B hml hno hv
  obtain ⟨rfl, ⟨hsz, hP, hK, hD0, hE⟩, hXX, hZU, hZN⟩ := hv
  have hx := B.exec
  have hb := B.bytes
  have hr := B.returns
  have hts := atoms_spec (ws := wsX11_tell) B.pre
  have hown : s.vm.findClass RX11 = some m.cls := findClass_of_methodNamed B.named
  have hlocks := B.notSynchronized
  have hin11 : ∀ w ∈ u_ws RX11 TX11 16, w ∈ wsX11_tell := fun w h => List.mem_cons_of_mem _ (List.mem_append_left _ (List.mem_append_left _ (List.mem_append_left _ (List.mem_append_left _ (List.mem_append_left _ (List.mem_append_right _ (h)))))))
  subst hsz
  have hD := hD0.self (sz := s.heap.size)
  generalize hAe : va_A (cw_w C L K z r A) s.heap.size = Ad at hD hZU hZN ⊢
  have hA : ∀ q : Nat, s.heap.size ≤ q → Ad q := fun q h => by rw [← hAe]; exact Or.inr h
  have hS : va_S Ad s.heap s.heap [] := va_S.rf
  have hl := lv_entry ([.ref y0, .int (hz_i y1), .int (hz_i y2), .int (hz_i y3), .int (hz_i y4), .int (hz_i y5)]) (n := 6) (Nat.le_of_ble_eq_true rfl)
  rw [lg_entry_eq]
  generalize (lg_sl ([.ref y0, .int (hz_i y1), .int (hz_i y2), .int (hz_i y3), .int (hz_i y4), .int (hz_i y5)]) ++ List.replicate (6 - (lg_sl ([.ref y0, .int (hz_i y1), .int (hz_i y2), .int (hz_i y3), .int (hz_i y4), .int (hz_i y5)])).length) Slot.unset).toArray = ls at hl ⊢
  have hl : lv_has ls 6 [(0, .ref y0), (1, .int (hz_i y1)), (2, .int (hz_i y2)), (3, .int (hz_i y3)), (4, .int (hz_i y4)), (5, .int (hz_i y5))] := hl
  refine mw_Q (fun QQ hQQ => ?_)
  have hP0 := hP; have hD0 := hD; have hS0 := hS; have hl0 := hl; have hw0 := hw
  clear hP hD hS hl hw
  have L57 : ∀ (A : Nat → Nat → Int), wp_c11_tell_57 L K z r A  Q X → ∀ (H : Heap) (locs : List Loc) (ls : Array Slot), va_P D vwCl (cw_w C L K z r A) H → va_D Ad (cw_w C L K z r A) → va_S Ad s.heap H locs → lv_has ls 6 [] → W p l e (headSpec wsX11_tell ({ frames := 6, cells := 1, slots := 6, locals := 90 } : Room)).room s m (List.toArray [.ref y0, .int (hz_i y1), .int (hz_i y2), .int (hz_i y3), .int (hz_i y4), .int (hz_i y5)]) below meth c H locs 0 0 QQ (F0 m 57 ls []) := by
    intro A hw H locs ls hP hD hS hl
    subst hQQ
    subst hAe
    obtain ⟨sa, hstr⟩ := hXX.str_166
    exact vx_throwS (names := ["java/lang/RuntimeException", "java/lang/Exception"]) hx hb hlt hown (by decide) (by decide) (hts (.classLink RX11 164 "java/lang/IllegalArgumentException") (List.mem_cons_of_mem _ (List.mem_append_left _ (List.mem_append_left _ (List.mem_append_left _ (List.mem_append_left _ (List.mem_append_left _ (List.mem_append_left _ (List.mem_append_left _ (List.mem_of_getElem? (i := 2) rfl)))))))))) (hts (.initialized "java/lang/IllegalArgumentException") (List.mem_cons_of_mem _ (List.mem_append_left _ (List.mem_append_left _ (List.mem_append_left _ (List.mem_append_left _ (List.mem_append_left _ (List.mem_append_left _ (List.mem_append_left _ (List.mem_of_getElem? (i := 3) rfl)))))))))) hstr (vx_hat (fun w h => hts w (List.mem_cons_of_mem _ (List.mem_append_right _ h))) hm_bad_IAE (vx_c (va_Nw.use rfl hXX.cast_IAE) (vx_c (va_Nw.use rfl hXX.dec_R) (vx_c (va_Nw.use rfl hXX.dec_E) (vx_c (va_Nw.use rfl hXX.dec_T) vx_n))))) (by decide +kernel) hZU hZN hS (by rw [hml]; exact hl.1) dX11_tell_57 dX11_tell_60 dX11_tell_61 dX11_tell_63 dX11_tell_66 (fun x h => (hno x h).elim) (Nat.le_of_ble_eq_true rfl) (Nat.le_of_ble_eq_true rfl) (Nat.le_of_ble_eq_true rfl) (Nat.le_of_ble_eq_true rfl) hlocks (fun t hvm hz hk => ⟨(0, z, r, A), trivial, ⟨hw, hP.kept (fun k q hq => hk q.1 ((hP k q hq).lt)), va_K.moved hvm hK, hD⟩, Nat.le_trans hS.1 hz, fun q h1 h2 => (hk q (Nat.lt_of_lt_of_le h1 hS.1)).trans (hS.2.1 q h1 h2)⟩) hS.2.2 (Nat.le_of_ble_eq_true rfl) (Nat.le_of_ble_eq_true rfl)
  have L21 : ∀ (A : Nat → Nat → Int), wp_c11_tell_21 L K z r A  Q X → ∀ (H : Heap) (locs : List Loc) (ls : Array Slot), va_P D vwCl (cw_w C L K z r A) H → va_D Ad (cw_w C L K z r A) → va_S Ad s.heap H locs → lv_has ls 6 [] → W p l e (headSpec wsX11_tell ({ frames := 6, cells := 1, slots := 6, locals := 90 } : Room)).room s m (List.toArray [.ref y0, .int (hz_i y1), .int (hz_i y2), .int (hz_i y3), .int (hz_i y4), .int (hz_i y5)]) below meth c H locs 0 0 QQ (F0 m 21 ls []) := by
    intro A hw H locs ls hP hD hS hl
    subst hQQ
    subst hAe
    obtain ⟨sa, hstr⟩ := hXX.str_159
    exact vx_throwS (names := ["java/lang/RuntimeException", "java/lang/Exception"]) hx hb hlt hown (by decide) (by decide) (hts (.classLink RX11 157 "java/lang/IndexOutOfBoundsException") (List.mem_cons_of_mem _ (List.mem_append_left _ (List.mem_append_left _ (List.mem_append_left _ (List.mem_append_left _ (List.mem_append_left _ (List.mem_append_left _ (List.mem_append_left _ (List.mem_of_getElem? (i := 0) rfl)))))))))) (hts (.initialized "java/lang/IndexOutOfBoundsException") (List.mem_cons_of_mem _ (List.mem_append_left _ (List.mem_append_left _ (List.mem_append_left _ (List.mem_append_left _ (List.mem_append_left _ (List.mem_append_left _ (List.mem_append_left _ (List.mem_of_getElem? (i := 1) rfl)))))))))) hstr (vx_hat (fun w h => hts w (List.mem_cons_of_mem _ (List.mem_append_left _ (List.mem_append_right _ h)))) hm_bad_IOO (vx_c (va_Nw.use rfl hXX.cast_IOO) (vx_c (va_Nw.use rfl hXX.dec_R) (vx_c (va_Nw.use rfl hXX.dec_E) (vx_c (va_Nw.use rfl hXX.dec_T) vx_n))))) (by decide +kernel) hZU hZN hS (by rw [hml]; exact hl.1) dX11_tell_21 dX11_tell_24 dX11_tell_25 dX11_tell_27 dX11_tell_30 (fun x h => (hno x h).elim) (Nat.le_of_ble_eq_true rfl) (Nat.le_of_ble_eq_true rfl) (Nat.le_of_ble_eq_true rfl) (Nat.le_of_ble_eq_true rfl) hlocks (fun t hvm hz hk => ⟨(0, z, r, A), trivial, ⟨hw, hP.kept (fun k q hq => hk q.1 ((hP k q hq).lt)), va_K.moved hvm hK, hD⟩, Nat.le_trans hS.1 hz, fun q h1 h2 => (hk q (Nat.lt_of_lt_of_le h1 hS.1)).trans (hS.2.1 q h1 h2)⟩) hS.2.2 (Nat.le_of_ble_eq_true rfl) (Nat.le_of_ble_eq_true rfl)
  have hP := hP0; have hD := hD0; have hS := hS0; have hl := hl0; have hw := hw0
  obtain ⟨H, hH⟩ : ∃ H : Heap, H = s.heap := ⟨_, rfl⟩
  obtain ⟨locs, hlocs⟩ : ∃ L : List Loc, L = [] := ⟨_, rfl⟩
  rw [← hH] at hP
  have hS : va_S Ad s.heap H locs := by rw [hH, hlocs]; exact hS
  refine mw_HL hH hlocs ?_
  refine lv_aload_n hx hb dX11_tell_0 rfl (lv_at hl 0 rfl) ?_
  refine lv_iload_n hx hb dX11_tell_1 rfl (lv_at hl 1 rfl) ?_
  obtain ⟨hO_2, hw⟩ := hw
  have hFc := cw_free hD hS hA
  obtain ⟨q9, hq9⟩ := cw_at (C := C) (z := z) (r := r) (A := A) hO_2.1 hO_2.2
  refine va_calli (va_runV (As := [.int (hz_i y1)]) (rest := []) ⟨hx, hb, hml, hown, hts⟩ (k_c11_isPlaying l D _ C L K z r A y0 y1 _ hw) (cwV 1 hts gX11_tell_X11_isPlaying rfl rfl rfl (by decide +kernel) ⟨Nat.le_of_ble_eq_true rfl, Nat.le_of_ble_eq_true rfl⟩) ⟨hm_blind, va_recv hK hP (ci := 11) (q0 := q9) rfl hq9, hm_pre hP hK hD hE⟩ rfl rfl hl.1 rfl (lv_room (Nat.le_of_ble_eq_true rfl)) dX11_tell_2 ⟨Nat.le_of_ble_eq_true rfl, Nat.le_of_ble_eq_true rfl⟩) hS (fun q _ h => hFc q h) hFc (fun rv u t H1 locs ht hvm hw hB hz1 hk1 hS => ?_)
  obtain ⟨rv_1, _, _, _⟩ := u
  obtain ⟨hP, hK1, hD1⟩ := hB
  rw [ht] at hP
  obtain ⟨hrv, hw⟩ := hw
  subst hrv
  have hD := hD1.weaken (fun k q _ h => hFc q.1 h)
  have hP : va_P D vwCl (cw_w C L K z r A) H1 := hP
  have hD : va_D Ad (cw_w C L K z r A) := hD
  generalize H1 = H at hP hS ⊢
  refine W.eq (g2 := F0 m 5 ls [.int (hz_i rv_1)]) rfl ?_
  obtain ⟨h9a, hw⟩ := hw
  refine hz_if_eq (tgt := 21) hx hb dX11_tell_5 (by decide) h9a (fun c_3 => ?_) (fun c_3 => ?_)
  · have hw := hw.1 c_3
    exact L21 A hw H locs ls hP hD hS (lv_sub hl [] rfl)
  · have hw := hw.2 c_3
    refine lv_aload_n hx hb dX11_tell_8 rfl (lv_at hl 0 rfl) ?_
    refine lv_iload_n hx hb dX11_tell_9 rfl (lv_at hl 1 rfl) ?_
    have hFc := cw_free hD hS hA
    obtain ⟨q9, hq9⟩ := cw_at (C := C) (z := z) (r := r) (A := A) hO_2.1 hO_2.2
    refine va_callr (va_runV (As := [.int (hz_i y1)]) (rest := []) ⟨hx, hb, hml, hown, hts⟩ (k_c11_sideOf l D _ C L K z r A y0 y1 _ hw) (cwV 1 hts gX11_tell_X11_sideOf rfl rfl rfl (by decide +kernel) ⟨Nat.le_of_ble_eq_true rfl, Nat.le_of_ble_eq_true rfl⟩) ⟨hm_blind, va_recv hK hP (ci := 11) (q0 := q9) rfl hq9, hm_pre hP hK hD hE⟩ rfl rfl hl.1 rfl (lv_room (Nat.le_of_ble_eq_true rfl)) dX11_tell_10 ⟨Nat.le_of_ble_eq_true rfl, Nat.le_of_ble_eq_true rfl⟩) hS (fun q _ h => hFc q h) hFc (fun u ra t H1 locs ht hvm hw hB hz1 hk1 hS => ?_)
    obtain ⟨rv_4, _, _, _⟩ := u
    obtain ⟨hra, hP, hK1, hD1⟩ := hB
    have hra := hra.symm
    subst hra
    rw [ht] at hP
    have hD := hD1.weaken (fun k q _ h => hFc q.1 h)
    have hP : va_P D vwCl (cw_w C L K z r A) H1 := hP
    have hD : va_D Ad (cw_w C L K z r A) := hD
    generalize H1 = H at hP hS ⊢
    refine W.eq (g2 := F0 m 13 ls [.ref rv_4]) rfl ?_
    refine lv_iload_n hx hb dX11_tell_13 rfl (lv_at hl 2 rfl) ?_
    refine lv_iload_n hx hb dX11_tell_14 rfl (lv_at hl 3 rfl) ?_
    obtain ⟨hO_6, hw⟩ := hw
    have hFc := cw_free hD hS hA
    obtain ⟨q9, hq9⟩ := cw_at (C := C) (z := z) (r := r) (A := A) hO_6.1 hO_6.2
    refine va_calli (va_runV (As := [.int (hz_i y2), .int (hz_i y3)]) (rest := []) ⟨hx, hb, hml, hown, hts⟩ (k_c7_hasMove l D _ C L K z r A rv_4 y2 y3 _ hw) (cwV 2 hts gX11_tell_X7_hasMove rfl rfl rfl (by decide +kernel) ⟨Nat.le_of_ble_eq_true rfl, Nat.le_of_ble_eq_true rfl⟩) ⟨hm_blind, va_recv hK hP (ci := 7) (q0 := q9) rfl hq9, hm_pre hP hK hD hE⟩ rfl rfl hl.1 rfl (lv_room (Nat.le_of_ble_eq_true rfl)) dX11_tell_15 ⟨Nat.le_of_ble_eq_true rfl, Nat.le_of_ble_eq_true rfl⟩) hS (fun q _ h => hFc q h) hFc (fun rv u t H1 locs ht hvm hw hB hz1 hk1 hS => ?_)
    obtain ⟨rv_5, _, _, _⟩ := u
    obtain ⟨hP, hK1, hD1⟩ := hB
    rw [ht] at hP
    obtain ⟨hrv, hw⟩ := hw
    subst hrv
    have hD := hD1.weaken (fun k q _ h => hFc q.1 h)
    have hP : va_P D vwCl (cw_w C L K z r A) H1 := hP
    have hD : va_D Ad (cw_w C L K z r A) := hD
    generalize H1 = H at hP hS ⊢
    refine W.eq (g2 := F0 m 18 ls [.int (hz_i rv_5)]) rfl ?_
    obtain ⟨h9a, hw⟩ := hw
    refine hz_if_ne (tgt := 31) hx hb dX11_tell_18 (by decide) h9a (fun c_7 => ?_) (fun c_7 => ?_)
    · have hw := hw.1 c_7
      refine lv_iload hx hb dX11_tell_31 (lv_at hl 5 rfl) ?_
      refine lv_iconst (v := hz_i 1) hx hb dX11_tell_33 (by decide +kernel) ?_
      obtain ⟨h9a, hw⟩ := hw
      refine hz_icmp_lt (tgt := 57) hx hb dX11_tell_34 (by decide) h9a ⟨by decide, by decide⟩ (fun c_8 => ?_) (fun c_8 => ?_)
      · have hw := hw.1 c_8
        exact L57 A hw H locs ls hP hD hS (lv_sub hl [] rfl)
      · have hw := hw.2 c_8
        refine lv_iload hx hb dX11_tell_37 (lv_at hl 5 rfl) ?_
        refine lv_sipush (v := hz_i 9999) hx hb dX11_tell_39 (by decide +kernel) ?_
        obtain ⟨h9a, hw⟩ := hw
        refine hz_icmp_gt (tgt := 57) hx hb dX11_tell_42 (by decide) h9a ⟨by decide, by decide⟩ (fun c_9 => ?_) (fun c_9 => ?_)
        · have hw := hw.1 c_9
          exact L57 A hw H locs ls hP hD hS (lv_sub hl [] rfl)
        · have hw := hw.2 c_9
          refine lv_iload hx hb dX11_tell_45 (lv_at hl 4 rfl) ?_
          obtain ⟨h9a, hw⟩ := hw
          refine hz_if_lt (tgt := 57) hx hb dX11_tell_47 (by decide) h9a (fun c_10 => ?_) (fun c_10 => ?_)
          · have hw := hw.1 c_10
            exact L57 A hw H locs ls hP hD hS (lv_sub hl [] rfl)
          · have hw := hw.2 c_10
            refine lv_iload hx hb dX11_tell_50 (lv_at hl 4 rfl) ?_
            refine lv_iload hx hb dX11_tell_52 (lv_at hl 5 rfl) ?_
            obtain ⟨h9a, hw⟩ := hw
            obtain ⟨h9b, hw⟩ := hw
            refine hz_icmp_le (tgt := 67) hx hb dX11_tell_54 (by decide) h9a h9b (fun c_11 => ?_) (fun c_11 => ?_)
            · have hw := hw.1 c_11
              refine lv_aload_n hx hb dX11_tell_67 rfl (lv_at hl 0 rfl) ?_
              refine cw_get (ci := 11) (v := .ref (r y0 4)) hx hb hts hin11 hown hK hP hO_2.1 hO_2.2 rfl 4 (by decide) (hts (.fieldLink RX11 33 "HiddenMoves" "ways" "[LHiddenMoves$Way;") (List.mem_cons_of_mem _ (List.mem_append_left _ (List.mem_append_left _ (List.mem_append_left _ (List.mem_append_left _ (List.mem_append_left _ (List.mem_append_left _ (List.mem_append_left _ (List.mem_of_getElem? (i := 4) rfl)))))))))) (fun _ h9 => h9) rfl dX11_tell_68 ?_
              refine lv_iload_n hx hb dX11_tell_71 rfl (lv_at hl 1 rfl) ?_
              refine lv_iconst (v := hz_i 1) hx hb dX11_tell_72 (by decide +kernel) ?_
              refine hz_isub hx hb dX11_tell_73 ?_
              obtain ⟨hO_12, hw⟩ := hw
              obtain ⟨h9i, hw⟩ := hw
              refine cw_ald hx hb hK hP hO_12.1 hO_12.2.2 rfl h9i hO_12.2.1 dX11_tell_74 ?_
              refine lv_iload_n hx hb dX11_tell_75 rfl (lv_at hl 2 rfl) ?_
              refine lv_iload_n hx hb dX11_tell_76 rfl (lv_at hl 3 rfl) ?_
              refine lv_iload hx hb dX11_tell_77 (lv_at hl 4 rfl) ?_
              refine lv_iload hx hb dX11_tell_79 (lv_at hl 5 rfl) ?_
              obtain ⟨hO_15, hw⟩ := hw
              have hFc := cw_free hD hS hA
              obtain ⟨q9, hq9⟩ := cw_at (C := C) (z := z) (r := r) (A := A) hO_15.1 hO_15.2
              refine va_callv (va_runV (As := [.int (hz_i y2), .int (hz_i y3), .int (hz_i y4), .int (hz_i y5)]) (rest := []) ⟨hx, hb, hml, hown, hts⟩ (k_c9_putChance l D _ C L K z r A (cw_g K (r y0 4) ((y1 - 1).toNat)) y2 y3 y4 y5 _ hw) (cwV 4 hts gX11_tell_X9_putChance rfl rfl rfl (by decide +kernel) ⟨Nat.le_of_ble_eq_true rfl, Nat.le_of_ble_eq_true rfl⟩) ⟨hm_blind, va_recv hK hP (ci := 9) (q0 := q9) rfl hq9, hm_pre hP hK hD hE⟩ rfl rfl hl.1 rfl (lv_room (Nat.le_of_ble_eq_true rfl)) dX11_tell_81 ⟨Nat.le_of_ble_eq_true rfl, Nat.le_of_ble_eq_true rfl⟩) hS (fun q _ h => hFc q h) hFc (fun u t H1 locs ht hvm hw hB hz1 hk1 hS => ?_)
              obtain ⟨rv_13, _, _, A_14⟩ := u
              obtain ⟨hP, hK1, hD1⟩ := hB
              rw [ht] at hP
              have hD := hD1.weaken (fun k q _ h => hFc q.1 h)
              have hP : va_P D vwCl (cw_w C L K z r A_14) H1 := hP
              have hD : va_D Ad (cw_w C L K z r A_14) := hD
              generalize H1 = H at hP hS ⊢
              refine W.eq (g2 := F0 m 84 ls []) rfl ?_
              subst hQQ
              subst hAe
              refine vx_ret (W.widen (k := 1) (n := 6) (by omega) (by omega) ?_)
              exact W.vret hx hb hr (fun t ht hW => ⟨⟨(0, z, r, A_14), rfl, hw, by rw [ht]; exact hP, va_K.moved hW.alike hK, hD⟩, hS.F ht⟩) hS.2.2 dX11_tell_84
            · have hw := hw.2 c_11
              exact L57 A hw H locs ls hP hD hS (lv_sub hl [] rfl)
    · have hw := hw.2 c_7
      exact L21 A hw H locs ls hP hD hS (lv_sub hl [] rfl)

noncomputable def wp_c11_solve (L : List Nat) (K : Nat → cw_K) (z : Nat → Nat → Int) (r : Nat → Nat → Nat) (A : Nat → Nat → Int) (y0 : Nat) (Q : (Nat → Nat → Int) → (Nat → Nat → Int) → Prop) (X : String → (Nat → Nat → Int) → (Nat → Nat → Int) → Prop) : Prop := cw_O L K 11 y0 ∧ hz_rI (z y0 14) ∧ ((¬ z y0 14 = 0 → cw_O L K 8 (r y0 3) ∧ wp_c8_work L K z r A (r y0 3) (r y0 13) (fun z_4 A_5 => cw_G L K 8 (r y0 6) ∧ ((0 : Int) ≤ 0 ∧ 0 < (cw_n K (r y0 6) : Int)) ∧ ((0 : Int) ≤ 1 ∧ 1 < (cw_n K (r y0 6) : Int)) ∧ wp_c8_handOver L K z_4 r A_5 (r y0 3) (cw_g K (r y0 6) ((0 : Int).toNat)) (cw_g K (r y0 6) ((1 : Int).toNat)) (fun z_9 A_10 => cw_G L K 5 (r y0 9) ∧ ((0 : Int) ≤ 0 ∧ 0 < (cw_n K (r y0 9) : Int)) ∧ wp_c8_top L K z_9 r A_10 (r y0 3) (fun rv_12 z_13 A_14 => ((0 : Int) ≤ 0 ∧ 0 < (cw_n K (r y0 6) : Int)) ∧ cw_O L K 3 (cw_g K (r y0 6) ((0 : Int).toNat)) ∧ cw_G L K 4 (r (cw_g K (r y0 6) ((0 : Int).toNat)) 0) ∧ ((0 : Int) ≤ 0 ∧ 0 < (cw_n K (r (cw_g K (r y0 6) ((0 : Int).toNat)) 0) : Int)) ∧ cw_O L K 2 (r y0 13) ∧ cw_O L K 4 (cw_g K (r y0 9) ((0 : Int).toNat)) ∧ wp_c4_put L K z_13 r A_14 (cw_g K (r y0 9) ((0 : Int).toNat)) rv_12 (cw_g K (r (cw_g K (r y0 6) ((0 : Int).toNat)) 0) ((0 : Int).toNat)) (z_13 (r y0 13) 2) (fun z_19 A_20 => Q z_19 A_20))))) ∧ (z y0 14 = 0 → X "java/lang/IllegalStateException" z A))
set_option maxHeartbeats 4000000 in
set_option maxRecDepth 100000 in
theorem k_c11_solve (l : Launch) (hlt : l.stackTraces = false) (D : va_G) (sz : Nat) (C : Nat → ClassId) (L : List Nat) (K : Nat → cw_K) (z : Nat → Nat → Int) (r : Nat → Nat → Nat) (A : Nat → Nat → Int) (y0 : Nat) (Q : (Nat → Nat → Int) → (Nat → Nat → Int) → Prop) (X : String → (Nat → Nat → Int) → (Nat → Nat → Int) → Prop) (hw : wp_c11_solve L K z r A y0 Q X) : vx_Met l yX11_solve wsX11_solve ({ frames := 6, cells := 1, slots := 6, locals := 151 } : Room) (va_Pc [.ref y0] (hm_PX D (cw_w C L K z r A) (cw_t C) sz)) (va_Qv (S := Int × (Nat → Nat → Int) × (Nat → Nat → Nat) × (Nat → Nat → Int)) (fun u => Q u.2.1 u.2.2.2) (fun u t => hm_B D (va_A (cw_w C L K z r A) sz) (cw_w C L K u.2.1 r u.2.2.2) (cw_t C) t) (va_A (cw_w C L K z r A) sz)) (vx_X (S := Int × (Nat → Nat → Int) × (Nat → Nat → Nat) × (Nat → Nat → Int)) (fun _ => True) (fun E u t => X E u.2.1 u.2.2.2 ∧ hm_B D (va_A (cw_w C L K z r A) sz) (cw_w C L K u.2.1 r u.2.2.2) (cw_t C) t) (va_A (cw_w C L K z r A) sz)) 1 6 (va_A (cw_w C L K z r A) sz) := by
  refine vx_ofW (cc := cX11_solve) (maxL := 1) (ret := none) (by decide) rfl ?_
  intro p e s m args below meth c s₁ B hml hno hv
  obtain ⟨rfl, ⟨hsz, hP, hK, hD0, hE⟩, hXX, hZU, hZN⟩ := hv
  have hx := B.exec
  have hb := B.bytes
  have hr := B.returns
  have hts := atoms_spec (ws := wsX11_solve) B.pre
  have hown : s.vm.findClass RX11 = some m.cls := findClass_of_methodNamed B.named
  have hlocks := B.notSynchronized
  have hin2 : ∀ w ∈ u_ws RX2 TX2 4, w ∈ wsX11_solve := fun w h => List.mem_cons_of_mem _ (List.mem_append_left _ (List.mem_append_left _ (List.mem_append_left _ (List.mem_append_left _ (List.mem_append_left _ (List.mem_append_left _ (List.mem_append_right _ (h))))))))
  have hin3 : ∀ w ∈ u_ws RX3 TX3 2, w ∈ wsX11_solve := fun w h => List.mem_cons_of_mem _ (List.mem_append_left _ (List.mem_append_left _ (List.mem_append_left _ (List.mem_append_left _ (List.mem_append_left _ (List.mem_append_left _ (List.mem_append_left _ (List.mem_append_right _ (h)))))))))
  have hin11 : ∀ w ∈ u_ws RX11 TX11 16, w ∈ wsX11_solve := fun w h => List.mem_cons_of_mem _ (List.mem_append_left _ (List.mem_append_left _ (List.mem_append_left _ (List.mem_append_left _ (List.mem_append_left _ (List.mem_append_left _ (List.mem_append_left _ (List.mem_append_left _ (List.mem_append_right _ (h))))))))))
  subst hsz
  have hD := hD0.self (sz := s.heap.size)
  generalize hAe : va_A (cw_w C L K z r A) s.heap.size = Ad at hD hZU hZN ⊢
  have hA : ∀ q : Nat, s.heap.size ≤ q → Ad q := fun q h => by rw [← hAe]; exact Or.inr h
  have hS : va_S Ad s.heap s.heap [] := va_S.rf
  have hl := lv_entry ([.ref y0]) (n := 1) (Nat.le_of_ble_eq_true rfl)
  rw [lg_entry_eq]
  generalize (lg_sl ([.ref y0]) ++ List.replicate (1 - (lg_sl ([.ref y0])).length) Slot.unset).toArray = ls at hl ⊢
  have hl : lv_has ls 1 [(0, .ref y0)] := hl
  refine mw_Q (fun QQ hQQ => ?_)
  have hP0 := hP; have hD0 := hD; have hS0 := hS; have hl0 := hl; have hw0 := hw
  clear hP hD hS hl hw
  have hP := hP0; have hD := hD0; have hS := hS0; have hl := hl0; have hw := hw0
  obtain ⟨H, hH⟩ : ∃ H : Heap, H = s.heap := ⟨_, rfl⟩
  obtain ⟨locs, hlocs⟩ : ∃ L : List Loc, L = [] := ⟨_, rfl⟩
  rw [← hH] at hP
  have hS : va_S Ad s.heap H locs := by rw [hH, hlocs]; exact hS
  refine mw_HL hH hlocs ?_
  refine lv_aload_n hx hb dX11_solve_0 rfl (lv_at hl 0 rfl) ?_
  obtain ⟨hO_1, hw⟩ := hw
  refine cw_get (ci := 11) (v := .int (hz_i (z y0 14))) hx hb hts hin11 hown hK hP hO_1.1 hO_1.2 rfl 14 (by decide) (hts (.fieldLink RX11 87 "HiddenMoves" "hasGame" "Z") (List.mem_cons_of_mem _ (List.mem_append_left _ (List.mem_append_left _ (List.mem_append_left _ (List.mem_append_left _ (List.mem_append_left _ (List.mem_append_left _ (List.mem_append_left _ (List.mem_append_left _ (List.mem_append_left _ (List.mem_append_left _ (List.mem_of_getElem? (i := 2) rfl))))))))))))) (fun _ h9 => h9) rfl dX11_solve_1 ?_
  obtain ⟨h9a, hw⟩ := hw
  refine hz_if_ne (tgt := 17) hx hb dX11_solve_4 (by decide) h9a (fun c_2 => ?_) (fun c_2 => ?_)
  · have hw := hw.1 c_2
    refine lv_aload_n hx hb dX11_solve_17 rfl (lv_at hl 0 rfl) ?_
    refine cw_get (ci := 11) (v := .ref (r y0 3)) hx hb hts hin11 hown hK hP hO_1.1 hO_1.2 rfl 3 (by decide) (hts (.fieldLink RX11 27 "HiddenMoves" "solver" "LHiddenMoves$Solver;") (List.mem_cons_of_mem _ (List.mem_append_left _ (List.mem_append_left _ (List.mem_append_left _ (List.mem_append_left _ (List.mem_append_left _ (List.mem_append_left _ (List.mem_append_left _ (List.mem_append_left _ (List.mem_append_left _ (List.mem_append_left _ (List.mem_of_getElem? (i := 3) rfl))))))))))))) (fun _ h9 => h9) rfl dX11_solve_18 ?_
    refine lv_aload_n hx hb dX11_solve_21 rfl (lv_at hl 0 rfl) ?_
    refine cw_get (ci := 11) (v := .ref (r y0 13)) hx hb hts hin11 hown hK hP hO_1.1 hO_1.2 rfl 13 (by decide) (hts (.fieldLink RX11 83 "HiddenMoves" "game" "LHiddenMoves$Game;") (List.mem_cons_of_mem _ (List.mem_append_left _ (List.mem_append_left _ (List.mem_append_left _ (List.mem_append_left _ (List.mem_append_left _ (List.mem_append_left _ (List.mem_append_left _ (List.mem_append_left _ (List.mem_append_left _ (List.mem_append_left _ (List.mem_of_getElem? (i := 4) rfl))))))))))))) (fun _ h9 => h9) rfl dX11_solve_22 ?_
    obtain ⟨hO_6, hw⟩ := hw
    have hFc := cw_free hD hS hA
    obtain ⟨q9, hq9⟩ := cw_at (C := C) (z := z) (r := r) (A := A) hO_6.1 hO_6.2
    refine va_callv (va_runV (As := [.ref (r y0 13)]) (rest := []) ⟨hx, hb, hml, hown, hts⟩ (k_c8_work l D _ C L K z r A (r y0 3) (r y0 13) _ hw) (cwV 1 hts gX11_solve_X8_work rfl rfl rfl (by decide +kernel) ⟨Nat.le_of_ble_eq_true rfl, Nat.le_of_ble_eq_true rfl⟩) ⟨hm_blind, va_recv hK hP (ci := 8) (q0 := q9) rfl hq9, hm_pre hP hK hD hE⟩ rfl rfl hl.1 rfl (lv_room (Nat.le_of_ble_eq_true rfl)) dX11_solve_25 ⟨Nat.le_of_ble_eq_true rfl, Nat.le_of_ble_eq_true rfl⟩) hS (fun q _ h => hFc q h) hFc (fun u t H1 locs ht hvm hw hB hz1 hk1 hS => ?_)
    obtain ⟨rv_3, z_4, _, A_5⟩ := u
    obtain ⟨hP, hK1, hD1⟩ := hB
    rw [ht] at hP
    have hD := hD1.weaken (fun k q _ h => hFc q.1 h)
    have hP : va_P D vwCl (cw_w C L K z_4 r A_5) H1 := hP
    have hD : va_D Ad (cw_w C L K z_4 r A_5) := hD
    generalize H1 = H at hP hS ⊢
    refine W.eq (g2 := F0 m 28 ls []) rfl ?_
    refine lv_aload_n hx hb dX11_solve_28 rfl (lv_at hl 0 rfl) ?_
    refine cw_get (ci := 11) (v := .ref (r y0 3)) hx hb hts hin11 hown hK hP hO_1.1 hO_1.2 rfl 3 (by decide) (hts (.fieldLink RX11 27 "HiddenMoves" "solver" "LHiddenMoves$Solver;") (List.mem_cons_of_mem _ (List.mem_append_left _ (List.mem_append_left _ (List.mem_append_left _ (List.mem_append_left _ (List.mem_append_left _ (List.mem_append_left _ (List.mem_append_left _ (List.mem_append_left _ (List.mem_append_left _ (List.mem_append_left _ (List.mem_of_getElem? (i := 3) rfl))))))))))))) (fun _ h9 => h9) rfl dX11_solve_29 ?_
    refine lv_aload_n hx hb dX11_solve_32 rfl (lv_at hl 0 rfl) ?_
    refine cw_get (ci := 11) (v := .ref (r y0 6)) hx hb hts hin11 hown hK hP hO_1.1 hO_1.2 rfl 6 (by decide) (hts (.fieldLink RX11 43 "HiddenMoves" "found" "[LHiddenMoves$Mix;") (List.mem_cons_of_mem _ (List.mem_append_left _ (List.mem_append_left _ (List.mem_append_left _ (List.mem_append_left _ (List.mem_append_left _ (List.mem_append_left _ (List.mem_append_left _ (List.mem_append_left _ (List.mem_append_left _ (List.mem_append_left _ (List.mem_of_getElem? (i := 5) rfl))))))))))))) (fun _ h9 => h9) rfl dX11_solve_33 ?_
    refine lv_iconst (v := hz_i 0) hx hb dX11_solve_36 (by decide +kernel) ?_
    obtain ⟨hO_7, hw⟩ := hw
    obtain ⟨h9i, hw⟩ := hw
    refine cw_ald hx hb hK hP hO_7.1 hO_7.2.2 rfl h9i hO_7.2.1 dX11_solve_37 ?_
    refine lv_aload_n hx hb dX11_solve_38 rfl (lv_at hl 0 rfl) ?_
    refine cw_get (ci := 11) (v := .ref (r y0 6)) hx hb hts hin11 hown hK hP hO_1.1 hO_1.2 rfl 6 (by decide) (hts (.fieldLink RX11 43 "HiddenMoves" "found" "[LHiddenMoves$Mix;") (List.mem_cons_of_mem _ (List.mem_append_left _ (List.mem_append_left _ (List.mem_append_left _ (List.mem_append_left _ (List.mem_append_left _ (List.mem_append_left _ (List.mem_append_left _ (List.mem_append_left _ (List.mem_append_left _ (List.mem_append_left _ (List.mem_of_getElem? (i := 5) rfl))))))))))))) (fun _ h9 => h9) rfl dX11_solve_39 ?_
    refine lv_iconst (v := hz_i 1) hx hb dX11_solve_42 (by decide +kernel) ?_
    obtain ⟨h9i, hw⟩ := hw
    refine cw_ald hx hb hK hP hO_7.1 hO_7.2.2 rfl h9i hO_7.2.1 dX11_solve_43 ?_
    have hFc := cw_free hD hS hA
    obtain ⟨q9, hq9⟩ := cw_at (C := C) (z := z_4) (r := r) (A := A_5) hO_6.1 hO_6.2
    refine va_callv (va_runV (As := [.ref (cw_g K (r y0 6) ((0 : Int).toNat)), .ref (cw_g K (r y0 6) ((1 : Int).toNat))]) (rest := []) ⟨hx, hb, hml, hown, hts⟩ (k_c8_handOver l D _ C L K z_4 r A_5 (r y0 3) (cw_g K (r y0 6) ((0 : Int).toNat)) (cw_g K (r y0 6) ((1 : Int).toNat)) _ hw) (cwV 2 hts gX11_solve_X8_handOver rfl rfl rfl (by decide +kernel) ⟨Nat.le_of_ble_eq_true rfl, Nat.le_of_ble_eq_true rfl⟩) ⟨hm_blind, va_recv hK hP (ci := 8) (q0 := q9) rfl hq9, hm_pre hP hK hD hE⟩ rfl rfl hl.1 rfl (lv_room (Nat.le_of_ble_eq_true rfl)) dX11_solve_44 ⟨Nat.le_of_ble_eq_true rfl, Nat.le_of_ble_eq_true rfl⟩) hS (fun q _ h => hFc q h) hFc (fun u t H1 locs ht hvm hw hB hz1 hk1 hS => ?_)
    obtain ⟨rv_8, z_9, _, A_10⟩ := u
    obtain ⟨hP, hK1, hD1⟩ := hB
    rw [ht] at hP
    have hD := hD1.weaken (fun k q _ h => hFc q.1 h)
    have hP : va_P D vwCl (cw_w C L K z_9 r A_10) H1 := hP
    have hD : va_D Ad (cw_w C L K z_9 r A_10) := hD
    generalize H1 = H at hP hS ⊢
    refine W.eq (g2 := F0 m 47 ls []) rfl ?_
    refine lv_aload_n hx hb dX11_solve_47 rfl (lv_at hl 0 rfl) ?_
    refine cw_get (ci := 11) (v := .ref (r y0 9)) hx hb hts hin11 hown hK hP hO_1.1 hO_1.2 rfl 9 (by decide) (hts (.fieldLink RX11 59 "HiddenMoves" "results" "[LHiddenMoves$Ratio;") (List.mem_cons_of_mem _ (List.mem_append_left _ (List.mem_append_left _ (List.mem_append_left _ (List.mem_append_left _ (List.mem_append_left _ (List.mem_append_left _ (List.mem_append_left _ (List.mem_append_left _ (List.mem_append_left _ (List.mem_append_left _ (List.mem_of_getElem? (i := 6) rfl))))))))))))) (fun _ h9 => h9) rfl dX11_solve_48 ?_
    refine lv_iconst (v := hz_i 0) hx hb dX11_solve_51 (by decide +kernel) ?_
    obtain ⟨hO_11, hw⟩ := hw
    obtain ⟨h9i, hw⟩ := hw
    refine cw_ald hx hb hK hP hO_11.1 hO_11.2.2 rfl h9i hO_11.2.1 dX11_solve_52 ?_
    refine lv_aload_n hx hb dX11_solve_53 rfl (lv_at hl 0 rfl) ?_
    refine cw_get (ci := 11) (v := .ref (r y0 3)) hx hb hts hin11 hown hK hP hO_1.1 hO_1.2 rfl 3 (by decide) (hts (.fieldLink RX11 27 "HiddenMoves" "solver" "LHiddenMoves$Solver;") (List.mem_cons_of_mem _ (List.mem_append_left _ (List.mem_append_left _ (List.mem_append_left _ (List.mem_append_left _ (List.mem_append_left _ (List.mem_append_left _ (List.mem_append_left _ (List.mem_append_left _ (List.mem_append_left _ (List.mem_append_left _ (List.mem_of_getElem? (i := 3) rfl))))))))))))) (fun _ h9 => h9) rfl dX11_solve_54 ?_
    have hFc := cw_free hD hS hA
    obtain ⟨q9, hq9⟩ := cw_at (C := C) (z := z_9) (r := r) (A := A_10) hO_6.1 hO_6.2
    refine va_callr (va_runV (As := []) (rest := [.ref (cw_g K (r y0 9) ((0 : Int).toNat))]) ⟨hx, hb, hml, hown, hts⟩ (k_c8_top l D _ C L K z_9 r A_10 (r y0 3) _ hw) (cwV 0 hts gX11_solve_X8_top rfl rfl rfl (by decide +kernel) ⟨Nat.le_of_ble_eq_true rfl, Nat.le_of_ble_eq_true rfl⟩) ⟨hm_blind, va_recv hK hP (ci := 8) (q0 := q9) rfl hq9, hm_pre hP hK hD hE⟩ rfl rfl hl.1 rfl (lv_room (Nat.le_of_ble_eq_true rfl)) dX11_solve_57 ⟨Nat.le_of_ble_eq_true rfl, Nat.le_of_ble_eq_true rfl⟩) hS (fun q _ h => hFc q h) hFc (fun u ra t H1 locs ht hvm hw hB hz1 hk1 hS => ?_)
    obtain ⟨rv_12, z_13, _, A_14⟩ := u
    obtain ⟨hra, hP, hK1, hD1⟩ := hB
    have hra := hra.symm
    subst hra
    rw [ht] at hP
    have hD := hD1.weaken (fun k q _ h => hFc q.1 h)
    have hP : va_P D vwCl (cw_w C L K z_13 r A_14) H1 := hP
    have hD : va_D Ad (cw_w C L K z_13 r A_14) := hD
    generalize H1 = H at hP hS ⊢
    refine W.eq (g2 := F0 m 60 ls [.ref rv_12, .ref (cw_g K (r y0 9) ((0 : Int).toNat))]) rfl ?_
    refine lv_aload_n hx hb dX11_solve_60 rfl (lv_at hl 0 rfl) ?_
    refine cw_get (ci := 11) (v := .ref (r y0 6)) hx hb hts hin11 hown hK hP hO_1.1 hO_1.2 rfl 6 (by decide) (hts (.fieldLink RX11 43 "HiddenMoves" "found" "[LHiddenMoves$Mix;") (List.mem_cons_of_mem _ (List.mem_append_left _ (List.mem_append_left _ (List.mem_append_left _ (List.mem_append_left _ (List.mem_append_left _ (List.mem_append_left _ (List.mem_append_left _ (List.mem_append_left _ (List.mem_append_left _ (List.mem_append_left _ (List.mem_of_getElem? (i := 5) rfl))))))))))))) (fun _ h9 => h9) rfl dX11_solve_61 ?_
    refine lv_iconst (v := hz_i 0) hx hb dX11_solve_64 (by decide +kernel) ?_
    obtain ⟨h9i, hw⟩ := hw
    refine cw_ald hx hb hK hP hO_7.1 hO_7.2.2 rfl h9i hO_7.2.1 dX11_solve_65 ?_
    obtain ⟨hO_15, hw⟩ := hw
    refine cw_get (ci := 3) (v := .ref (r (cw_g K (r y0 6) ((0 : Int).toNat)) 0)) hx hb hts hin3 hown hK hP hO_15.1 hO_15.2 rfl 0 (by decide) (hts (.fieldLink RX11 193 "HiddenMoves$Mix" "parts" "[LHiddenMoves$Big;") (List.mem_cons_of_mem _ (List.mem_append_left _ (List.mem_append_left _ (List.mem_append_left _ (List.mem_append_left _ (List.mem_append_left _ (List.mem_append_left _ (List.mem_append_left _ (List.mem_append_left _ (List.mem_append_left _ (List.mem_append_left _ (List.mem_of_getElem? (i := 7) rfl))))))))))))) (fun _ h9 => h9) rfl dX11_solve_66 ?_
    refine lv_iconst (v := hz_i 0) hx hb dX11_solve_69 (by decide +kernel) ?_
    obtain ⟨hO_16, hw⟩ := hw
    obtain ⟨h9i, hw⟩ := hw
    refine cw_ald hx hb hK hP hO_16.1 hO_16.2.2 rfl h9i hO_16.2.1 dX11_solve_70 ?_
    refine lv_aload_n hx hb dX11_solve_71 rfl (lv_at hl 0 rfl) ?_
    refine cw_get (ci := 11) (v := .ref (r y0 13)) hx hb hts hin11 hown hK hP hO_1.1 hO_1.2 rfl 13 (by decide) (hts (.fieldLink RX11 83 "HiddenMoves" "game" "LHiddenMoves$Game;") (List.mem_cons_of_mem _ (List.mem_append_left _ (List.mem_append_left _ (List.mem_append_left _ (List.mem_append_left _ (List.mem_append_left _ (List.mem_append_left _ (List.mem_append_left _ (List.mem_append_left _ (List.mem_append_left _ (List.mem_append_left _ (List.mem_of_getElem? (i := 4) rfl))))))))))))) (fun _ h9 => h9) rfl dX11_solve_72 ?_
    obtain ⟨hO_17, hw⟩ := hw
    refine cw_get (ci := 2) (v := .long (hz_l (z_13 (r y0 13) 2))) hx hb hts hin2 hown hK hP hO_17.1 hO_17.2 rfl 2 (by decide) (hts (.fieldLink RX11 197 "HiddenMoves$Game" "common" "J") (List.mem_cons_of_mem _ (List.mem_append_left _ (List.mem_append_left _ (List.mem_append_left _ (List.mem_append_left _ (List.mem_append_left _ (List.mem_append_left _ (List.mem_append_left _ (List.mem_append_left _ (List.mem_append_left _ (List.mem_append_left _ (List.mem_of_getElem? (i := 8) rfl))))))))))))) (fun _ h9 => h9) rfl dX11_solve_75 ?_
    obtain ⟨hO_21, hw⟩ := hw
    have hFc := cw_free hD hS hA
    obtain ⟨q9, hq9⟩ := cw_at (C := C) (z := z_13) (r := r) (A := A_14) hO_21.1 hO_21.2
    refine va_callv (va_runV (As := [.ref rv_12, .ref (cw_g K (r (cw_g K (r y0 6) ((0 : Int).toNat)) 0) ((0 : Int).toNat)), .long (hz_l (z_13 (r y0 13) 2))]) (rest := []) ⟨hx, hb, hml, hown, hts⟩ (k_c4_put l D _ C L K z_13 r A_14 (cw_g K (r y0 9) ((0 : Int).toNat)) rv_12 (cw_g K (r (cw_g K (r y0 6) ((0 : Int).toNat)) 0) ((0 : Int).toNat)) (z_13 (r y0 13) 2) _ hw) (cwV 3 hts gX11_solve_X4_put rfl rfl rfl (by decide +kernel) ⟨Nat.le_of_ble_eq_true rfl, Nat.le_of_ble_eq_true rfl⟩) ⟨hm_blind, va_recv hK hP (ci := 4) (q0 := q9) rfl hq9, hm_pre hP hK hD hE⟩ rfl rfl hl.1 rfl (lv_room (Nat.le_of_ble_eq_true rfl)) dX11_solve_78 ⟨Nat.le_of_ble_eq_true rfl, Nat.le_of_ble_eq_true rfl⟩) hS (fun q _ h => hFc q h) hFc (fun u t H1 locs ht hvm hw hB hz1 hk1 hS => ?_)
    obtain ⟨rv_18, z_19, _, A_20⟩ := u
    obtain ⟨hP, hK1, hD1⟩ := hB
    rw [ht] at hP
    have hD := hD1.weaken (fun k q _ h => hFc q.1 h)
    have hP : va_P D vwCl (cw_w C L K z_19 r A_20) H1 := hP
    have hD : va_D Ad (cw_w C L K z_19 r A_20) := hD
    generalize H1 = H at hP hS ⊢
    refine W.eq (g2 := F0 m 81 ls []) rfl ?_
    subst hQQ
    subst hAe
    refine vx_ret (W.widen (k := 1) (n := 6) (by omega) (by omega) ?_)
    exact W.vret hx hb hr (fun t ht hW => ⟨⟨(0, z_19, r, A_20), rfl, hw, by rw [ht]; exact hP, va_K.moved hW.alike hK, hD⟩, hS.F ht⟩) hS.2.2 dX11_solve_81
  · have hw := hw.2 c_2
    subst hQQ
    subst hAe
    obtain ⟨sa, hstr⟩ := hXX.str_178
    exact vx_throwS (names := ["java/lang/RuntimeException", "java/lang/Exception"]) hx hb hlt hown (by decide) (by decide) (hts (.classLink RX11 176 "java/lang/IllegalStateException") (List.mem_cons_of_mem _ (List.mem_append_left _ (List.mem_append_left _ (List.mem_append_left _ (List.mem_append_left _ (List.mem_append_left _ (List.mem_append_left _ (List.mem_append_left _ (List.mem_append_left _ (List.mem_append_left _ (List.mem_append_left _ (List.mem_of_getElem? (i := 0) rfl))))))))))))) (hts (.initialized "java/lang/IllegalStateException") (List.mem_cons_of_mem _ (List.mem_append_left _ (List.mem_append_left _ (List.mem_append_left _ (List.mem_append_left _ (List.mem_append_left _ (List.mem_append_left _ (List.mem_append_left _ (List.mem_append_left _ (List.mem_append_left _ (List.mem_append_left _ (List.mem_of_getElem? (i := 1) rfl))))))))))))) hstr (vx_hat (fun w h => hts w (List.mem_cons_of_mem _ (List.mem_append_right _ h))) hm_bad_ISE (vx_c (va_Nw.use rfl hXX.cast_ISE) (vx_c (va_Nw.use rfl hXX.dec_R) (vx_c (va_Nw.use rfl hXX.dec_E) (vx_c (va_Nw.use rfl hXX.dec_T) vx_n))))) (by decide +kernel) hZU hZN hS (by rw [hml]; exact hl.1) dX11_solve_7 dX11_solve_10 dX11_solve_11 dX11_solve_13 dX11_solve_16 (fun x h => (hno x h).elim) (Nat.le_of_ble_eq_true rfl) (Nat.le_of_ble_eq_true rfl) (Nat.le_of_ble_eq_true rfl) (Nat.le_of_ble_eq_true rfl) hlocks (fun t hvm hz hk => ⟨(0, z, r, A), trivial, ⟨hw, hP.kept (fun k q hq => hk q.1 ((hP k q hq).lt)), va_K.moved hvm hK, hD⟩, Nat.le_trans hS.1 hz, fun q h1 h2 => (hk q (Nat.lt_of_lt_of_le h1 hS.1)).trans (hS.2.1 q h1 h2)⟩) hS.2.2 (Nat.le_of_ble_eq_true rfl) (Nat.le_of_ble_eq_true rfl)

noncomputable def wp_c11_expect_23 (L : List Nat) (K : Nat → cw_K) (z : Nat → Nat → Int) (r : Nat → Nat → Nat) (A : Nat → Nat → Int) (Q : (Nat → Nat → Int) → (Nat → Nat → Int) → Prop) (X : String → (Nat → Nat → Int) → (Nat → Nat → Int) → Prop) : Prop := X "java/lang/IllegalStateException" z A
noncomputable def wp_c11_expect (L : List Nat) (K : Nat → cw_K) (z : Nat → Nat → Int) (r : Nat → Nat → Nat) (A : Nat → Nat → Int) (y0 : Nat) (Q : (Nat → Nat → Int) → (Nat → Nat → Int) → Prop) (X : String → (Nat → Nat → Int) → (Nat → Nat → Int) → Prop) : Prop := cw_O L K 11 y0 ∧ hz_rI (z y0 14) ∧ ((z y0 14 = 0 → wp_c11_expect_23 L K z r A  Q X) ∧ (¬ (z y0 14 = 0) → wp_c11_isGood L K z r A y0 0 (fun rv_3 => hz_rI rv_3 ∧ ((rv_3 = 0 → wp_c11_expect_23 L K z r A  Q X) ∧ (¬ (rv_3 = 0) → wp_c11_isGood L K z r A y0 1 (fun rv_5 => hz_rI rv_5 ∧ ((¬ rv_5 = 0 → wp_c11_spreadWay L K z r A y0 0 (fun z_8 A_9 => wp_c11_spreadWay L K z_8 r A_9 y0 1 (fun z_11 A_12 => cw_G L K 8 (r y0 5) ∧ ((0 : Int) ≤ 0 ∧ 0 < (cw_n K (r y0 5) : Int)) ∧ ((0 : Int) ≤ 1 ∧ 1 < (cw_n K (r y0 5) : Int)) ∧ cw_O L K 6 (r y0 8) ∧ wp_c6_meet L K z_11 r A_12 (r y0 8) (r y0 13) (cw_g K (r y0 5) ((0 : Int).toNat)) (cw_g K (r y0 5) ((1 : Int).toNat)) (r y0 11) (fun z_15 A_16 => ((0 : Int) ≤ 0 ∧ 0 < (cw_n K (r y0 5) : Int)) ∧ cw_O L K 3 (cw_g K (r y0 5) ((0 : Int).toNat)) ∧ cw_G L K 4 (r (cw_g K (r y0 5) ((0 : Int).toNat)) 0) ∧ ((0 : Int) ≤ 0 ∧ 0 < (cw_n K (r (cw_g K (r y0 5) ((0 : Int).toNat)) 0) : Int)) ∧ ((0 : Int) ≤ 1 ∧ 1 < (cw_n K (r y0 5) : Int)) ∧ cw_O L K 3 (cw_g K (r y0 5) ((1 : Int).toNat)) ∧ cw_G L K 4 (r (cw_g K (r y0 5) ((1 : Int).toNat)) 0) ∧ ((0 : Int) ≤ 0 ∧ 0 < (cw_n K (r (cw_g K (r y0 5) ((1 : Int).toNat)) 0) : Int)) ∧ cw_O L K 0 (r y0 12) ∧ wp_c0_putProduct L K z_15 r A_16 (r y0 12) (cw_g K (r (cw_g K (r y0 5) ((0 : Int).toNat)) 0) ((0 : Int).toNat)) (cw_g K (r (cw_g K (r y0 5) ((1 : Int).toNat)) 0) ((0 : Int).toNat)) (fun z_23 A_24 => cw_G L K 5 (r y0 9) ∧ ((0 : Int) ≤ 1 ∧ 1 < (cw_n K (r y0 9) : Int)) ∧ cw_O L K 2 (r y0 13) ∧ cw_O L K 4 (cw_g K (r y0 9) ((1 : Int).toNat)) ∧ wp_c4_put L K z_23 r A_24 (cw_g K (r y0 9) ((1 : Int).toNat)) (r y0 11) (r y0 12) (z_23 (r y0 13) 2) (fun z_29 A_30 => Q z_29 A_30)))))) ∧ (rv_5 = 0 → wp_c11_expect_23 L K z r A  Q X))))))))
set_option maxHeartbeats 4000000 in
set_option maxRecDepth 100000 in
theorem k_c11_expect (l : Launch) (hlt : l.stackTraces = false) (D : va_G) (sz : Nat) (C : Nat → ClassId) (L : List Nat) (K : Nat → cw_K) (z : Nat → Nat → Int) (r : Nat → Nat → Nat) (A : Nat → Nat → Int) (y0 : Nat) (Q : (Nat → Nat → Int) → (Nat → Nat → Int) → Prop) (X : String → (Nat → Nat → Int) → (Nat → Nat → Int) → Prop) (hw : wp_c11_expect L K z r A y0 Q X) : vx_Met l yX11_expect wsX11_expect ({ frames := 7, cells := 1, slots := 6, locals := 169 } : Room) (va_Pc [.ref y0] (hm_PX D (cw_w C L K z r A) (cw_t C) sz)) (va_Qv (S := Int × (Nat → Nat → Int) × (Nat → Nat → Nat) × (Nat → Nat → Int)) (fun u => Q u.2.1 u.2.2.2) (fun u t => hm_B D (va_A (cw_w C L K z r A) sz) (cw_w C L K u.2.1 r u.2.2.2) (cw_t C) t) (va_A (cw_w C L K z r A) sz)) (vx_X (S := Int × (Nat → Nat → Int) × (Nat → Nat → Nat) × (Nat → Nat → Int)) (fun _ => True) (fun E u t => X E u.2.1 u.2.2.2 ∧ hm_B D (va_A (cw_w C L K z r A) sz) (cw_w C L K u.2.1 r u.2.2.2) (cw_t C) t) (va_A (cw_w C L K z r A) sz)) 1 6 (va_A (cw_w C L K z r A) sz) := by
  refine vx_ofW (cc := cX11_expect) (maxL := 1) (ret := none) (by decide) rfl ?_
  intro p e s m args below meth c s₁ B hml hno hv
  obtain ⟨rfl, ⟨hsz, hP, hK, hD0, hE⟩, hXX, hZU, hZN⟩ := hv
  have hx := B.exec
  have hb := B.bytes
  have hr := B.returns
  have hts := atoms_spec (ws := wsX11_expect) B.pre
  have hown : s.vm.findClass RX11 = some m.cls := findClass_of_methodNamed B.named
  have hlocks := B.notSynchronized
  have hin2 : ∀ w ∈ u_ws RX2 TX2 4, w ∈ wsX11_expect := fun w h => List.mem_cons_of_mem _ (List.mem_append_left _ (List.mem_append_left _ (List.mem_append_left _ (List.mem_append_left _ (List.mem_append_left _ (List.mem_append_left _ (List.mem_append_left _ (List.mem_append_right _ (h)))))))))
  have hin3 : ∀ w ∈ u_ws RX3 TX3 2, w ∈ wsX11_expect := fun w h => List.mem_cons_of_mem _ (List.mem_append_left _ (List.mem_append_left _ (List.mem_append_left _ (List.mem_append_left _ (List.mem_append_left _ (List.mem_append_left _ (List.mem_append_left _ (List.mem_append_left _ (List.mem_append_right _ (h))))))))))
  have hin11 : ∀ w ∈ u_ws RX11 TX11 16, w ∈ wsX11_expect := fun w h => List.mem_cons_of_mem _ (List.mem_append_left _ (List.mem_append_left _ (List.mem_append_left _ (List.mem_append_left _ (List.mem_append_left _ (List.mem_append_left _ (List.mem_append_left _ (List.mem_append_left _ (List.mem_append_left _ (List.mem_append_right _ (h)))))))))))
  subst hsz
  have hD := hD0.self (sz := s.heap.size)
  generalize hAe : va_A (cw_w C L K z r A) s.heap.size = Ad at hD hZU hZN ⊢
  have hA : ∀ q : Nat, s.heap.size ≤ q → Ad q := fun q h => by rw [← hAe]; exact Or.inr h
  have hS : va_S Ad s.heap s.heap [] := va_S.rf
  have hl := lv_entry ([.ref y0]) (n := 1) (Nat.le_of_ble_eq_true rfl)
  rw [lg_entry_eq]
  generalize (lg_sl ([.ref y0]) ++ List.replicate (1 - (lg_sl ([.ref y0])).length) Slot.unset).toArray = ls at hl ⊢
  have hl : lv_has ls 1 [(0, .ref y0)] := hl
  refine mw_Q (fun QQ hQQ => ?_)
  have hP0 := hP; have hD0 := hD; have hS0 := hS; have hl0 := hl; have hw0 := hw
  clear hP hD hS hl hw
  have L23 : ∀ (z : Nat → Nat → Int) (A : Nat → Nat → Int), wp_c11_expect_23 L K z r A  Q X → ∀ (H : Heap) (locs : List Loc) (ls : Array Slot), va_P D vwCl (cw_w C L K z r A) H → va_D Ad (cw_w C L K z r A) → va_S Ad s.heap H locs → lv_has ls 1 [] → W p l e (headSpec wsX11_expect ({ frames := 7, cells := 1, slots := 6, locals := 169 } : Room)).room s m (List.toArray [.ref y0]) below meth c H locs 0 0 QQ (F0 m 23 ls []) := by
    intro z A hw H locs ls hP hD hS hl
    subst hQQ
    subst hAe
    obtain ⟨sa, hstr⟩ := hXX.str_205
    exact vx_throwS (names := ["java/lang/RuntimeException", "java/lang/Exception"]) hx hb hlt hown (by decide) (by decide) (hts (.classLink RX11 176 "java/lang/IllegalStateException") (List.mem_cons_of_mem _ (List.mem_append_left _ (List.mem_append_left _ (List.mem_append_left _ (List.mem_append_left _ (List.mem_append_left _ (List.mem_append_left _ (List.mem_append_left _ (List.mem_append_left _ (List.mem_append_left _ (List.mem_append_left _ (List.mem_append_left _ (List.mem_of_getElem? (i := 0) rfl)))))))))))))) (hts (.initialized "java/lang/IllegalStateException") (List.mem_cons_of_mem _ (List.mem_append_left _ (List.mem_append_left _ (List.mem_append_left _ (List.mem_append_left _ (List.mem_append_left _ (List.mem_append_left _ (List.mem_append_left _ (List.mem_append_left _ (List.mem_append_left _ (List.mem_append_left _ (List.mem_append_left _ (List.mem_of_getElem? (i := 1) rfl)))))))))))))) hstr (vx_hat (fun w h => hts w (List.mem_cons_of_mem _ (List.mem_append_right _ h))) hm_bad_ISE (vx_c (va_Nw.use rfl hXX.cast_ISE) (vx_c (va_Nw.use rfl hXX.dec_R) (vx_c (va_Nw.use rfl hXX.dec_E) (vx_c (va_Nw.use rfl hXX.dec_T) vx_n))))) (by decide +kernel) hZU hZN hS (by rw [hml]; exact hl.1) dX11_expect_23 dX11_expect_26 dX11_expect_27 dX11_expect_29 dX11_expect_32 (fun x h => (hno x h).elim) (Nat.le_of_ble_eq_true rfl) (Nat.le_of_ble_eq_true rfl) (Nat.le_of_ble_eq_true rfl) (Nat.le_of_ble_eq_true rfl) hlocks (fun t hvm hz hk => ⟨(0, z, r, A), trivial, ⟨hw, hP.kept (fun k q hq => hk q.1 ((hP k q hq).lt)), va_K.moved hvm hK, hD⟩, Nat.le_trans hS.1 hz, fun q h1 h2 => (hk q (Nat.lt_of_lt_of_le h1 hS.1)).trans (hS.2.1 q h1 h2)⟩) hS.2.2 (Nat.le_of_ble_eq_true rfl) (Nat.le_of_ble_eq_true rfl)
  have hP := hP0; have hD := hD0; have hS := hS0; have hl := hl0; have hw := hw0
  obtain ⟨H, hH⟩ : ∃ H : Heap, H = s.heap := ⟨_, rfl⟩
  obtain ⟨locs, hlocs⟩ : ∃ L : List Loc, L = [] := ⟨_, rfl⟩
  rw [← hH] at hP
  have hS : va_S Ad s.heap H locs := by rw [hH, hlocs]; exact hS
  refine mw_HL hH hlocs ?_
  refine lv_aload_n hx hb dX11_expect_0 rfl (lv_at hl 0 rfl) ?_
  obtain ⟨hO_1, hw⟩ := hw
  refine cw_get (ci := 11) (v := .int (hz_i (z y0 14))) hx hb hts hin11 hown hK hP hO_1.1 hO_1.2 rfl 14 (by decide) (hts (.fieldLink RX11 87 "HiddenMoves" "hasGame" "Z") (List.mem_cons_of_mem _ (List.mem_append_left _ (List.mem_append_left _ (List.mem_append_left _ (List.mem_append_left _ (List.mem_append_left _ (List.mem_append_left _ (List.mem_append_left _ (List.mem_append_left _ (List.mem_append_left _ (List.mem_append_left _ (List.mem_append_left _ (List.mem_of_getElem? (i := 2) rfl)))))))))))))) (fun _ h9 => h9) rfl dX11_expect_1 ?_
  obtain ⟨h9a, hw⟩ := hw
  refine hz_if_eq (tgt := 23) hx hb dX11_expect_4 (by decide) h9a (fun c_2 => ?_) (fun c_2 => ?_)
  · have hw := hw.1 c_2
    exact L23 z A hw H locs ls hP hD hS (lv_sub hl [] rfl)
  · have hw := hw.2 c_2
    refine lv_aload_n hx hb dX11_expect_7 rfl (lv_at hl 0 rfl) ?_
    refine lv_iconst (v := hz_i 0) hx hb dX11_expect_8 (by decide +kernel) ?_
    have hFc := cw_free hD hS hA
    obtain ⟨q9, hq9⟩ := cw_at (C := C) (z := z) (r := r) (A := A) hO_1.1 hO_1.2
    refine va_calli (va_runV (As := [.int (hz_i 0)]) (rest := []) ⟨hx, hb, hml, hown, hts⟩ (k_c11_isGood l D _ C L K z r A y0 0 _ hw) (cwV 1 hts gX11_expect_X11_isGood rfl rfl rfl (by decide +kernel) ⟨Nat.le_of_ble_eq_true rfl, Nat.le_of_ble_eq_true rfl⟩) ⟨hm_blind, va_recv hK hP (ci := 11) (q0 := q9) rfl hq9, hm_pre hP hK hD hE⟩ rfl rfl hl.1 rfl (lv_room (Nat.le_of_ble_eq_true rfl)) dX11_expect_9 ⟨Nat.le_of_ble_eq_true rfl, Nat.le_of_ble_eq_true rfl⟩) hS (fun q _ h => hFc q h) hFc (fun rv u t H1 locs ht hvm hw hB hz1 hk1 hS => ?_)
    obtain ⟨rv_3, _, _, _⟩ := u
    obtain ⟨hP, hK1, hD1⟩ := hB
    rw [ht] at hP
    obtain ⟨hrv, hw⟩ := hw
    subst hrv
    have hD := hD1.weaken (fun k q _ h => hFc q.1 h)
    have hP : va_P D vwCl (cw_w C L K z r A) H1 := hP
    have hD : va_D Ad (cw_w C L K z r A) := hD
    generalize H1 = H at hP hS ⊢
    refine W.eq (g2 := F0 m 12 ls [.int (hz_i rv_3)]) rfl ?_
    obtain ⟨h9a, hw⟩ := hw
    refine hz_if_eq (tgt := 23) hx hb dX11_expect_12 (by decide) h9a (fun c_4 => ?_) (fun c_4 => ?_)
    · have hw := hw.1 c_4
      exact L23 z A hw H locs ls hP hD hS (lv_sub hl [] rfl)
    · have hw := hw.2 c_4
      refine lv_aload_n hx hb dX11_expect_15 rfl (lv_at hl 0 rfl) ?_
      refine lv_iconst (v := hz_i 1) hx hb dX11_expect_16 (by decide +kernel) ?_
      have hFc := cw_free hD hS hA
      obtain ⟨q9, hq9⟩ := cw_at (C := C) (z := z) (r := r) (A := A) hO_1.1 hO_1.2
      refine va_calli (va_runV (As := [.int (hz_i 1)]) (rest := []) ⟨hx, hb, hml, hown, hts⟩ (k_c11_isGood l D _ C L K z r A y0 1 _ hw) (cwV 1 hts gX11_expect_X11_isGood rfl rfl rfl (by decide +kernel) ⟨Nat.le_of_ble_eq_true rfl, Nat.le_of_ble_eq_true rfl⟩) ⟨hm_blind, va_recv hK hP (ci := 11) (q0 := q9) rfl hq9, hm_pre hP hK hD hE⟩ rfl rfl hl.1 rfl (lv_room (Nat.le_of_ble_eq_true rfl)) dX11_expect_17 ⟨Nat.le_of_ble_eq_true rfl, Nat.le_of_ble_eq_true rfl⟩) hS (fun q _ h => hFc q h) hFc (fun rv u t H1 locs ht hvm hw hB hz1 hk1 hS => ?_)
      obtain ⟨rv_5, _, _, _⟩ := u
      obtain ⟨hP, hK1, hD1⟩ := hB
      rw [ht] at hP
      obtain ⟨hrv, hw⟩ := hw
      subst hrv
      have hD := hD1.weaken (fun k q _ h => hFc q.1 h)
      have hP : va_P D vwCl (cw_w C L K z r A) H1 := hP
      have hD : va_D Ad (cw_w C L K z r A) := hD
      generalize H1 = H at hP hS ⊢
      refine W.eq (g2 := F0 m 20 ls [.int (hz_i rv_5)]) rfl ?_
      obtain ⟨h9a, hw⟩ := hw
      refine hz_if_ne (tgt := 33) hx hb dX11_expect_20 (by decide) h9a (fun c_6 => ?_) (fun c_6 => ?_)
      · have hw := hw.1 c_6
        refine lv_aload_n hx hb dX11_expect_33 rfl (lv_at hl 0 rfl) ?_
        refine lv_iconst (v := hz_i 0) hx hb dX11_expect_34 (by decide +kernel) ?_
        have hFc := cw_free hD hS hA
        obtain ⟨q9, hq9⟩ := cw_at (C := C) (z := z) (r := r) (A := A) hO_1.1 hO_1.2
        refine va_callv (va_runV (As := [.int (hz_i 0)]) (rest := []) ⟨hx, hb, hml, hown, hts⟩ (k_c11_spreadWay l D _ C L K z r A y0 0 _ hw) (cwV 1 hts gX11_expect_X11_spreadWay rfl rfl rfl (by decide +kernel) ⟨Nat.le_of_ble_eq_true rfl, Nat.le_of_ble_eq_true rfl⟩) ⟨hm_blind, va_recv hK hP (ci := 11) (q0 := q9) rfl hq9, hm_pre hP hK hD hE⟩ rfl rfl hl.1 rfl (lv_room (Nat.le_of_ble_eq_true rfl)) dX11_expect_35 ⟨Nat.le_of_ble_eq_true rfl, Nat.le_of_ble_eq_true rfl⟩) hS (fun q _ h => hFc q h) hFc (fun u t H1 locs ht hvm hw hB hz1 hk1 hS => ?_)
        obtain ⟨rv_7, z_8, _, A_9⟩ := u
        obtain ⟨hP, hK1, hD1⟩ := hB
        rw [ht] at hP
        have hD := hD1.weaken (fun k q _ h => hFc q.1 h)
        have hP : va_P D vwCl (cw_w C L K z_8 r A_9) H1 := hP
        have hD : va_D Ad (cw_w C L K z_8 r A_9) := hD
        generalize H1 = H at hP hS ⊢
        refine W.eq (g2 := F0 m 38 ls []) rfl ?_
        refine lv_aload_n hx hb dX11_expect_38 rfl (lv_at hl 0 rfl) ?_
        refine lv_iconst (v := hz_i 1) hx hb dX11_expect_39 (by decide +kernel) ?_
        have hFc := cw_free hD hS hA
        obtain ⟨q9, hq9⟩ := cw_at (C := C) (z := z_8) (r := r) (A := A_9) hO_1.1 hO_1.2
        refine va_callv (va_runV (As := [.int (hz_i 1)]) (rest := []) ⟨hx, hb, hml, hown, hts⟩ (k_c11_spreadWay l D _ C L K z_8 r A_9 y0 1 _ hw) (cwV 1 hts gX11_expect_X11_spreadWay rfl rfl rfl (by decide +kernel) ⟨Nat.le_of_ble_eq_true rfl, Nat.le_of_ble_eq_true rfl⟩) ⟨hm_blind, va_recv hK hP (ci := 11) (q0 := q9) rfl hq9, hm_pre hP hK hD hE⟩ rfl rfl hl.1 rfl (lv_room (Nat.le_of_ble_eq_true rfl)) dX11_expect_40 ⟨Nat.le_of_ble_eq_true rfl, Nat.le_of_ble_eq_true rfl⟩) hS (fun q _ h => hFc q h) hFc (fun u t H1 locs ht hvm hw hB hz1 hk1 hS => ?_)
        obtain ⟨rv_10, z_11, _, A_12⟩ := u
        obtain ⟨hP, hK1, hD1⟩ := hB
        rw [ht] at hP
        have hD := hD1.weaken (fun k q _ h => hFc q.1 h)
        have hP : va_P D vwCl (cw_w C L K z_11 r A_12) H1 := hP
        have hD : va_D Ad (cw_w C L K z_11 r A_12) := hD
        generalize H1 = H at hP hS ⊢
        refine W.eq (g2 := F0 m 43 ls []) rfl ?_
        refine lv_aload_n hx hb dX11_expect_43 rfl (lv_at hl 0 rfl) ?_
        refine cw_get (ci := 11) (v := .ref (r y0 8)) hx hb hts hin11 hown hK hP hO_1.1 hO_1.2 rfl 8 (by decide) (hts (.fieldLink RX11 53 "HiddenMoves" "trial" "LHiddenMoves$Reply;") (List.mem_cons_of_mem _ (List.mem_append_left _ (List.mem_append_left _ (List.mem_append_left _ (List.mem_append_left _ (List.mem_append_left _ (List.mem_append_left _ (List.mem_append_left _ (List.mem_append_left _ (List.mem_append_left _ (List.mem_append_left _ (List.mem_append_left _ (List.mem_of_getElem? (i := 3) rfl)))))))))))))) (fun _ h9 => h9) rfl dX11_expect_44 ?_
        refine lv_aload_n hx hb dX11_expect_47 rfl (lv_at hl 0 rfl) ?_
        refine cw_get (ci := 11) (v := .ref (r y0 13)) hx hb hts hin11 hown hK hP hO_1.1 hO_1.2 rfl 13 (by decide) (hts (.fieldLink RX11 83 "HiddenMoves" "game" "LHiddenMoves$Game;") (List.mem_cons_of_mem _ (List.mem_append_left _ (List.mem_append_left _ (List.mem_append_left _ (List.mem_append_left _ (List.mem_append_left _ (List.mem_append_left _ (List.mem_append_left _ (List.mem_append_left _ (List.mem_append_left _ (List.mem_append_left _ (List.mem_append_left _ (List.mem_of_getElem? (i := 4) rfl)))))))))))))) (fun _ h9 => h9) rfl dX11_expect_48 ?_
        refine lv_aload_n hx hb dX11_expect_51 rfl (lv_at hl 0 rfl) ?_
        refine cw_get (ci := 11) (v := .ref (r y0 5)) hx hb hts hin11 hown hK hP hO_1.1 hO_1.2 rfl 5 (by decide) (hts (.fieldLink RX11 39 "HiddenMoves" "told" "[LHiddenMoves$Mix;") (List.mem_cons_of_mem _ (List.mem_append_left _ (List.mem_append_left _ (List.mem_append_left _ (List.mem_append_left _ (List.mem_append_left _ (List.mem_append_left _ (List.mem_append_left _ (List.mem_append_left _ (List.mem_append_left _ (List.mem_append_left _ (List.mem_append_left _ (List.mem_of_getElem? (i := 5) rfl)))))))))))))) (fun _ h9 => h9) rfl dX11_expect_52 ?_
        refine lv_iconst (v := hz_i 0) hx hb dX11_expect_55 (by decide +kernel) ?_
        obtain ⟨hO_13, hw⟩ := hw
        obtain ⟨h9i, hw⟩ := hw
        refine cw_ald hx hb hK hP hO_13.1 hO_13.2.2 rfl h9i hO_13.2.1 dX11_expect_56 ?_
        refine lv_aload_n hx hb dX11_expect_57 rfl (lv_at hl 0 rfl) ?_
        refine cw_get (ci := 11) (v := .ref (r y0 5)) hx hb hts hin11 hown hK hP hO_1.1 hO_1.2 rfl 5 (by decide) (hts (.fieldLink RX11 39 "HiddenMoves" "told" "[LHiddenMoves$Mix;") (List.mem_cons_of_mem _ (List.mem_append_left _ (List.mem_append_left _ (List.mem_append_left _ (List.mem_append_left _ (List.mem_append_left _ (List.mem_append_left _ (List.mem_append_left _ (List.mem_append_left _ (List.mem_append_left _ (List.mem_append_left _ (List.mem_append_left _ (List.mem_of_getElem? (i := 5) rfl)))))))))))))) (fun _ h9 => h9) rfl dX11_expect_58 ?_
        refine lv_iconst (v := hz_i 1) hx hb dX11_expect_61 (by decide +kernel) ?_
        obtain ⟨h9i, hw⟩ := hw
        refine cw_ald hx hb hK hP hO_13.1 hO_13.2.2 rfl h9i hO_13.2.1 dX11_expect_62 ?_
        refine lv_aload_n hx hb dX11_expect_63 rfl (lv_at hl 0 rfl) ?_
        refine cw_get (ci := 11) (v := .ref (r y0 11)) hx hb hts hin11 hown hK hP hO_1.1 hO_1.2 rfl 11 (by decide) (hts (.fieldLink RX11 73 "HiddenMoves" "sum" "LHiddenMoves$Big;") (List.mem_cons_of_mem _ (List.mem_append_left _ (List.mem_append_left _ (List.mem_append_left _ (List.mem_append_left _ (List.mem_append_left _ (List.mem_append_left _ (List.mem_append_left _ (List.mem_append_left _ (List.mem_append_left _ (List.mem_append_left _ (List.mem_append_left _ (List.mem_of_getElem? (i := 6) rfl)))))))))))))) (fun _ h9 => h9) rfl dX11_expect_64 ?_
        obtain ⟨hO_17, hw⟩ := hw
        have hFc := cw_free hD hS hA
        obtain ⟨q9, hq9⟩ := cw_at (C := C) (z := z_11) (r := r) (A := A_12) hO_17.1 hO_17.2
        refine va_callv (va_runV (As := [.ref (r y0 13), .ref (cw_g K (r y0 5) ((0 : Int).toNat)), .ref (cw_g K (r y0 5) ((1 : Int).toNat)), .ref (r y0 11)]) (rest := []) ⟨hx, hb, hml, hown, hts⟩ (k_c6_meet l D _ C L K z_11 r A_12 (r y0 8) (r y0 13) (cw_g K (r y0 5) ((0 : Int).toNat)) (cw_g K (r y0 5) ((1 : Int).toNat)) (r y0 11) _ hw) (cwV 4 hts gX11_expect_X6_meet rfl rfl rfl (by decide +kernel) ⟨Nat.le_of_ble_eq_true rfl, Nat.le_of_ble_eq_true rfl⟩) ⟨hm_blind, va_recv hK hP (ci := 6) (q0 := q9) rfl hq9, hm_pre hP hK hD hE⟩ rfl rfl hl.1 rfl (lv_room (Nat.le_of_ble_eq_true rfl)) dX11_expect_67 ⟨Nat.le_of_ble_eq_true rfl, Nat.le_of_ble_eq_true rfl⟩) hS (fun q _ h => hFc q h) hFc (fun u t H1 locs ht hvm hw hB hz1 hk1 hS => ?_)
        obtain ⟨rv_14, z_15, _, A_16⟩ := u
        obtain ⟨hP, hK1, hD1⟩ := hB
        rw [ht] at hP
        have hD := hD1.weaken (fun k q _ h => hFc q.1 h)
        have hP : va_P D vwCl (cw_w C L K z_15 r A_16) H1 := hP
        have hD : va_D Ad (cw_w C L K z_15 r A_16) := hD
        generalize H1 = H at hP hS ⊢
        refine W.eq (g2 := F0 m 70 ls []) rfl ?_
        refine lv_aload_n hx hb dX11_expect_70 rfl (lv_at hl 0 rfl) ?_
        refine cw_get (ci := 11) (v := .ref (r y0 12)) hx hb hts hin11 hown hK hP hO_1.1 hO_1.2 rfl 12 (by decide) (hts (.fieldLink RX11 77 "HiddenMoves" "whole" "LHiddenMoves$Big;") (List.mem_cons_of_mem _ (List.mem_append_left _ (List.mem_append_left _ (List.mem_append_left _ (List.mem_append_left _ (List.mem_append_left _ (List.mem_append_left _ (List.mem_append_left _ (List.mem_append_left _ (List.mem_append_left _ (List.mem_append_left _ (List.mem_append_left _ (List.mem_of_getElem? (i := 7) rfl)))))))))))))) (fun _ h9 => h9) rfl dX11_expect_71 ?_
        refine lv_aload_n hx hb dX11_expect_74 rfl (lv_at hl 0 rfl) ?_
        refine cw_get (ci := 11) (v := .ref (r y0 5)) hx hb hts hin11 hown hK hP hO_1.1 hO_1.2 rfl 5 (by decide) (hts (.fieldLink RX11 39 "HiddenMoves" "told" "[LHiddenMoves$Mix;") (List.mem_cons_of_mem _ (List.mem_append_left _ (List.mem_append_left _ (List.mem_append_left _ (List.mem_append_left _ (List.mem_append_left _ (List.mem_append_left _ (List.mem_append_left _ (List.mem_append_left _ (List.mem_append_left _ (List.mem_append_left _ (List.mem_append_left _ (List.mem_of_getElem? (i := 5) rfl)))))))))))))) (fun _ h9 => h9) rfl dX11_expect_75 ?_
        refine lv_iconst (v := hz_i 0) hx hb dX11_expect_78 (by decide +kernel) ?_
        obtain ⟨h9i, hw⟩ := hw
        refine cw_ald hx hb hK hP hO_13.1 hO_13.2.2 rfl h9i hO_13.2.1 dX11_expect_79 ?_
        obtain ⟨hO_18, hw⟩ := hw
        refine cw_get (ci := 3) (v := .ref (r (cw_g K (r y0 5) ((0 : Int).toNat)) 0)) hx hb hts hin3 hown hK hP hO_18.1 hO_18.2 rfl 0 (by decide) (hts (.fieldLink RX11 193 "HiddenMoves$Mix" "parts" "[LHiddenMoves$Big;") (List.mem_cons_of_mem _ (List.mem_append_left _ (List.mem_append_left _ (List.mem_append_left _ (List.mem_append_left _ (List.mem_append_left _ (List.mem_append_left _ (List.mem_append_left _ (List.mem_append_left _ (List.mem_append_left _ (List.mem_append_left _ (List.mem_append_left _ (List.mem_of_getElem? (i := 8) rfl)))))))))))))) (fun _ h9 => h9) rfl dX11_expect_80 ?_
        refine lv_iconst (v := hz_i 0) hx hb dX11_expect_83 (by decide +kernel) ?_
        obtain ⟨hO_19, hw⟩ := hw
        obtain ⟨h9i, hw⟩ := hw
        refine cw_ald hx hb hK hP hO_19.1 hO_19.2.2 rfl h9i hO_19.2.1 dX11_expect_84 ?_
        refine lv_aload_n hx hb dX11_expect_85 rfl (lv_at hl 0 rfl) ?_
        refine cw_get (ci := 11) (v := .ref (r y0 5)) hx hb hts hin11 hown hK hP hO_1.1 hO_1.2 rfl 5 (by decide) (hts (.fieldLink RX11 39 "HiddenMoves" "told" "[LHiddenMoves$Mix;") (List.mem_cons_of_mem _ (List.mem_append_left _ (List.mem_append_left _ (List.mem_append_left _ (List.mem_append_left _ (List.mem_append_left _ (List.mem_append_left _ (List.mem_append_left _ (List.mem_append_left _ (List.mem_append_left _ (List.mem_append_left _ (List.mem_append_left _ (List.mem_of_getElem? (i := 5) rfl)))))))))))))) (fun _ h9 => h9) rfl dX11_expect_86 ?_
        refine lv_iconst (v := hz_i 1) hx hb dX11_expect_89 (by decide +kernel) ?_
        obtain ⟨h9i, hw⟩ := hw
        refine cw_ald hx hb hK hP hO_13.1 hO_13.2.2 rfl h9i hO_13.2.1 dX11_expect_90 ?_
        obtain ⟨hO_20, hw⟩ := hw
        refine cw_get (ci := 3) (v := .ref (r (cw_g K (r y0 5) ((1 : Int).toNat)) 0)) hx hb hts hin3 hown hK hP hO_20.1 hO_20.2 rfl 0 (by decide) (hts (.fieldLink RX11 193 "HiddenMoves$Mix" "parts" "[LHiddenMoves$Big;") (List.mem_cons_of_mem _ (List.mem_append_left _ (List.mem_append_left _ (List.mem_append_left _ (List.mem_append_left _ (List.mem_append_left _ (List.mem_append_left _ (List.mem_append_left _ (List.mem_append_left _ (List.mem_append_left _ (List.mem_append_left _ (List.mem_append_left _ (List.mem_of_getElem? (i := 8) rfl)))))))))))))) (fun _ h9 => h9) rfl dX11_expect_91 ?_
        refine lv_iconst (v := hz_i 0) hx hb dX11_expect_94 (by decide +kernel) ?_
        obtain ⟨hO_21, hw⟩ := hw
        obtain ⟨h9i, hw⟩ := hw
        refine cw_ald hx hb hK hP hO_21.1 hO_21.2.2 rfl h9i hO_21.2.1 dX11_expect_95 ?_
        obtain ⟨hO_25, hw⟩ := hw
        have hFc := cw_free hD hS hA
        obtain ⟨q9, hq9⟩ := cw_at (C := C) (z := z_15) (r := r) (A := A_16) hO_25.1 hO_25.2
        refine va_callv (va_runV (As := [.ref (cw_g K (r (cw_g K (r y0 5) ((0 : Int).toNat)) 0) ((0 : Int).toNat)), .ref (cw_g K (r (cw_g K (r y0 5) ((1 : Int).toNat)) 0) ((0 : Int).toNat))]) (rest := []) ⟨hx, hb, hml, hown, hts⟩ (k_c0_putProduct l D _ C L K z_15 r A_16 (r y0 12) (cw_g K (r (cw_g K (r y0 5) ((0 : Int).toNat)) 0) ((0 : Int).toNat)) (cw_g K (r (cw_g K (r y0 5) ((1 : Int).toNat)) 0) ((0 : Int).toNat)) _ hw) (cwV 2 hts gX11_expect_X0_putProduct rfl rfl rfl (by decide +kernel) ⟨Nat.le_of_ble_eq_true rfl, Nat.le_of_ble_eq_true rfl⟩) ⟨hm_blind, va_recv hK hP (ci := 0) (q0 := q9) rfl hq9, hm_pre hP hK hD hE⟩ rfl rfl hl.1 rfl (lv_room (Nat.le_of_ble_eq_true rfl)) dX11_expect_96 ⟨Nat.le_of_ble_eq_true rfl, Nat.le_of_ble_eq_true rfl⟩) hS (fun q _ h => hFc q h) hFc (fun u t H1 locs ht hvm hw hB hz1 hk1 hS => ?_)
        obtain ⟨rv_22, z_23, _, A_24⟩ := u
        obtain ⟨hP, hK1, hD1⟩ := hB
        rw [ht] at hP
        have hD := hD1.weaken (fun k q _ h => hFc q.1 h)
        have hP : va_P D vwCl (cw_w C L K z_23 r A_24) H1 := hP
        have hD : va_D Ad (cw_w C L K z_23 r A_24) := hD
        generalize H1 = H at hP hS ⊢
        refine W.eq (g2 := F0 m 99 ls []) rfl ?_
        refine lv_aload_n hx hb dX11_expect_99 rfl (lv_at hl 0 rfl) ?_
        refine cw_get (ci := 11) (v := .ref (r y0 9)) hx hb hts hin11 hown hK hP hO_1.1 hO_1.2 rfl 9 (by decide) (hts (.fieldLink RX11 59 "HiddenMoves" "results" "[LHiddenMoves$Ratio;") (List.mem_cons_of_mem _ (List.mem_append_left _ (List.mem_append_left _ (List.mem_append_left _ (List.mem_append_left _ (List.mem_append_left _ (List.mem_append_left _ (List.mem_append_left _ (List.mem_append_left _ (List.mem_append_left _ (List.mem_append_left _ (List.mem_append_left _ (List.mem_of_getElem? (i := 9) rfl)))))))))))))) (fun _ h9 => h9) rfl dX11_expect_100 ?_
        refine lv_iconst (v := hz_i 1) hx hb dX11_expect_103 (by decide +kernel) ?_
        obtain ⟨hO_26, hw⟩ := hw
        obtain ⟨h9i, hw⟩ := hw
        refine cw_ald hx hb hK hP hO_26.1 hO_26.2.2 rfl h9i hO_26.2.1 dX11_expect_104 ?_
        refine lv_aload_n hx hb dX11_expect_105 rfl (lv_at hl 0 rfl) ?_
        refine cw_get (ci := 11) (v := .ref (r y0 11)) hx hb hts hin11 hown hK hP hO_1.1 hO_1.2 rfl 11 (by decide) (hts (.fieldLink RX11 73 "HiddenMoves" "sum" "LHiddenMoves$Big;") (List.mem_cons_of_mem _ (List.mem_append_left _ (List.mem_append_left _ (List.mem_append_left _ (List.mem_append_left _ (List.mem_append_left _ (List.mem_append_left _ (List.mem_append_left _ (List.mem_append_left _ (List.mem_append_left _ (List.mem_append_left _ (List.mem_append_left _ (List.mem_of_getElem? (i := 6) rfl)))))))))))))) (fun _ h9 => h9) rfl dX11_expect_106 ?_
        refine lv_aload_n hx hb dX11_expect_109 rfl (lv_at hl 0 rfl) ?_
        refine cw_get (ci := 11) (v := .ref (r y0 12)) hx hb hts hin11 hown hK hP hO_1.1 hO_1.2 rfl 12 (by decide) (hts (.fieldLink RX11 77 "HiddenMoves" "whole" "LHiddenMoves$Big;") (List.mem_cons_of_mem _ (List.mem_append_left _ (List.mem_append_left _ (List.mem_append_left _ (List.mem_append_left _ (List.mem_append_left _ (List.mem_append_left _ (List.mem_append_left _ (List.mem_append_left _ (List.mem_append_left _ (List.mem_append_left _ (List.mem_append_left _ (List.mem_of_getElem? (i := 7) rfl)))))))))))))) (fun _ h9 => h9) rfl dX11_expect_110 ?_
        refine lv_aload_n hx hb dX11_expect_113 rfl (lv_at hl 0 rfl) ?_
        refine cw_get (ci := 11) (v := .ref (r y0 13)) hx hb hts hin11 hown hK hP hO_1.1 hO_1.2 rfl 13 (by decide) (hts (.fieldLink RX11 83 "HiddenMoves" "game" "LHiddenMoves$Game;") (List.mem_cons_of_mem _ (List.mem_append_left _ (List.mem_append_left _ (List.mem_append_left _ (List.mem_append_left _ (List.mem_append_left _ (List.mem_append_left _ (List.mem_append_left _ (List.mem_append_left _ (List.mem_append_left _ (List.mem_append_left _ (List.mem_append_left _ (List.mem_of_getElem? (i := 4) rfl)))))))))))))) (fun _ h9 => h9) rfl dX11_expect_114 ?_
        obtain ⟨hO_27, hw⟩ := hw
        refine cw_get (ci := 2) (v := .long (hz_l (z_23 (r y0 13) 2))) hx hb hts hin2 hown hK hP hO_27.1 hO_27.2 rfl 2 (by decide) (hts (.fieldLink RX11 197 "HiddenMoves$Game" "common" "J") (List.mem_cons_of_mem _ (List.mem_append_left _ (List.mem_append_left _ (List.mem_append_left _ (List.mem_append_left _ (List.mem_append_left _ (List.mem_append_left _ (List.mem_append_left _ (List.mem_append_left _ (List.mem_append_left _ (List.mem_append_left _ (List.mem_append_left _ (List.mem_of_getElem? (i := 10) rfl)))))))))))))) (fun _ h9 => h9) rfl dX11_expect_117 ?_
        obtain ⟨hO_31, hw⟩ := hw
        have hFc := cw_free hD hS hA
        obtain ⟨q9, hq9⟩ := cw_at (C := C) (z := z_23) (r := r) (A := A_24) hO_31.1 hO_31.2
        refine va_callv (va_runV (As := [.ref (r y0 11), .ref (r y0 12), .long (hz_l (z_23 (r y0 13) 2))]) (rest := []) ⟨hx, hb, hml, hown, hts⟩ (k_c4_put l D _ C L K z_23 r A_24 (cw_g K (r y0 9) ((1 : Int).toNat)) (r y0 11) (r y0 12) (z_23 (r y0 13) 2) _ hw) (cwV 3 hts gX11_expect_X4_put rfl rfl rfl (by decide +kernel) ⟨Nat.le_of_ble_eq_true rfl, Nat.le_of_ble_eq_true rfl⟩) ⟨hm_blind, va_recv hK hP (ci := 4) (q0 := q9) rfl hq9, hm_pre hP hK hD hE⟩ rfl rfl hl.1 rfl (lv_room (Nat.le_of_ble_eq_true rfl)) dX11_expect_120 ⟨Nat.le_of_ble_eq_true rfl, Nat.le_of_ble_eq_true rfl⟩) hS (fun q _ h => hFc q h) hFc (fun u t H1 locs ht hvm hw hB hz1 hk1 hS => ?_)
        obtain ⟨rv_28, z_29, _, A_30⟩ := u
        obtain ⟨hP, hK1, hD1⟩ := hB
        rw [ht] at hP
        have hD := hD1.weaken (fun k q _ h => hFc q.1 h)
        have hP : va_P D vwCl (cw_w C L K z_29 r A_30) H1 := hP
        have hD : va_D Ad (cw_w C L K z_29 r A_30) := hD
        generalize H1 = H at hP hS ⊢
        refine W.eq (g2 := F0 m 123 ls []) rfl ?_
        subst hQQ
        subst hAe
        refine vx_ret (W.widen (k := 1) (n := 6) (by omega) (by omega) ?_)
        exact W.vret hx hb hr (fun t ht hW => ⟨⟨(0, z_29, r, A_30), rfl, hw, by rw [ht]; exact hP, va_K.moved hW.alike hK, hD⟩, hS.F ht⟩) hS.2.2 dX11_expect_123
      · have hw := hw.2 c_6
        exact L23 z A hw H locs ls hP hD hS (lv_sub hl [] rfl)

noncomputable def wp_c11_judge_36 (L : List Nat) (K : Nat → cw_K) (z : Nat → Nat → Int) (r : Nat → Nat → Nat) (A : Nat → Nat → Int) (Q : (Nat → Nat → Int) → (Nat → Nat → Int) → Prop) (X : String → (Nat → Nat → Int) → (Nat → Nat → Int) → Prop) : Prop := X "java/lang/IllegalStateException" z A
noncomputable def wp_c11_judge (L : List Nat) (K : Nat → cw_K) (z : Nat → Nat → Int) (r : Nat → Nat → Nat) (A : Nat → Nat → Int) (y0 : Nat) (y1 : Int) (Q : (Nat → Nat → Int) → (Nat → Nat → Int) → Prop) (X : String → (Nat → Nat → Int) → (Nat → Nat → Int) → Prop) : Prop := wp_c11_isPlayer L K z r A y1 (fun rv_1 => hz_rI rv_1 ∧ ((¬ rv_1 = 0 → ∀ x2_3 : Int, x2_3 = y1 - 1 → cw_O L K 11 y0 ∧ hz_rI (z y0 14) ∧ ((z y0 14 = 0 → wp_c11_judge_36 L K z r A  Q X) ∧ (¬ (z y0 14 = 0) → wp_c11_isGood L K z r A y0 x2_3 (fun rv_6 => hz_rI rv_6 ∧ ((¬ rv_6 = 0 → wp_c11_spreadWay L K z r A y0 x2_3 (fun z_9 A_10 => cw_G L K 6 (r y0 7) ∧ ((0 : Int) ≤ x2_3 ∧ x2_3 < (cw_n K (r y0 7) : Int)) ∧ wp_c11_other L K z_9 r A_10 x2_3 (fun rv_12 => cw_G L K 8 (r y0 5) ∧ ((0 : Int) ≤ x2_3 ∧ x2_3 < (cw_n K (r y0 5) : Int)) ∧ cw_O L K 6 (cw_g K (r y0 7) (x2_3.toNat)) ∧ wp_c6_work L K z_9 r A_10 (cw_g K (r y0 7) (x2_3.toNat)) (r y0 13) rv_12 (cw_g K (r y0 5) (x2_3.toNat)) (fun z_15 A_16 => cw_G L K 5 (r y0 9) ∧ ((0 : Int) ≤ 2 + x2_3 ∧ 2 + x2_3 < (cw_n K (r y0 9) : Int)) ∧ ((0 : Int) ≤ x2_3 ∧ x2_3 < (cw_n K (r y0 7) : Int)) ∧ wp_c6_worth L K z_15 r A_16 (cw_g K (r y0 7) (x2_3.toNat)) (fun rv_19 => ((0 : Int) ≤ x2_3 ∧ x2_3 < (cw_n K (r y0 5) : Int)) ∧ cw_O L K 3 (cw_g K (r y0 5) (x2_3.toNat)) ∧ cw_G L K 4 (r (cw_g K (r y0 5) (x2_3.toNat)) 0) ∧ ((0 : Int) ≤ 0 ∧ 0 < (cw_n K (r (cw_g K (r y0 5) (x2_3.toNat)) 0) : Int)) ∧ cw_O L K 2 (r y0 13) ∧ cw_O L K 4 (cw_g K (r y0 9) ((2 + x2_3).toNat)) ∧ wp_c4_put L K z_15 r A_16 (cw_g K (r y0 9) ((2 + x2_3).toNat)) rv_19 (cw_g K (r (cw_g K (r y0 5) (x2_3.toNat)) 0) ((0 : Int).toNat)) (z_15 (r y0 13) 2) (fun z_24 A_25 => Q z_24 A_25)))))) ∧ (rv_6 = 0 → wp_c11_judge_36 L K z r A  Q X)))))) ∧ (rv_1 = 0 → X "java/lang/IllegalArgumentException" z A)))
set_option maxHeartbeats 4000000 in
set_option maxRecDepth 100000 in
theorem k_c11_judge (l : Launch) (hlt : l.stackTraces = false) (D : va_G) (sz : Nat) (C : Nat → ClassId) (L : List Nat) (K : Nat → cw_K) (z : Nat → Nat → Int) (r : Nat → Nat → Nat) (A : Nat → Nat → Int) (y0 : Nat) (y1 : Int) (Q : (Nat → Nat → Int) → (Nat → Nat → Int) → Prop) (X : String → (Nat → Nat → Int) → (Nat → Nat → Int) → Prop) (hw : wp_c11_judge L K z r A y0 y1 Q X) : vx_Met l yX11_judge wsX11_judge ({ frames := 7, cells := 1, slots := 6, locals := 169 } : Room) (va_Pc [.ref y0, .int (hz_i y1)] (hm_PX D (cw_w C L K z r A) (cw_t C) sz)) (va_Qv (S := Int × (Nat → Nat → Int) × (Nat → Nat → Nat) × (Nat → Nat → Int)) (fun u => Q u.2.1 u.2.2.2) (fun u t => hm_B D (va_A (cw_w C L K z r A) sz) (cw_w C L K u.2.1 r u.2.2.2) (cw_t C) t) (va_A (cw_w C L K z r A) sz)) (vx_X (S := Int × (Nat → Nat → Int) × (Nat → Nat → Nat) × (Nat → Nat → Int)) (fun _ => True) (fun E u t => X E u.2.1 u.2.2.2 ∧ hm_B D (va_A (cw_w C L K z r A) sz) (cw_w C L K u.2.1 r u.2.2.2) (cw_t C) t) (va_A (cw_w C L K z r A) sz)) 1 6 (va_A (cw_w C L K z r A) sz) := by
  refine vx_ofW (cc := cX11_judge) (maxL := 3) (ret := none) (by decide) rfl ?_
  intro p e s m args below meth c s₁ B hml hno hv
  obtain ⟨rfl, ⟨hsz, hP, hK, hD0, hE⟩, hXX, hZU, hZN⟩ := hv
  have hx := B.exec
  have hb := B.bytes
  have hr := B.returns
  have hts := atoms_spec (ws := wsX11_judge) B.pre
  have hown : s.vm.findClass RX11 = some m.cls := findClass_of_methodNamed B.named
  have hlocks := B.notSynchronized
  have hin2 : ∀ w ∈ u_ws RX2 TX2 4, w ∈ wsX11_judge := fun w h => List.mem_cons_of_mem _ (List.mem_append_left _ (List.mem_append_left _ (List.mem_append_left _ (List.mem_append_left _ (List.mem_append_left _ (List.mem_append_left _ (List.mem_append_left _ (List.mem_append_left _ (List.mem_append_right _ (h))))))))))
  have hin3 : ∀ w ∈ u_ws RX3 TX3 2, w ∈ wsX11_judge := fun w h => List.mem_cons_of_mem _ (List.mem_append_left _ (List.mem_append_left _ (List.mem_append_left _ (List.mem_append_left _ (List.mem_append_left _ (List.mem_append_left _ (List.mem_append_left _ (List.mem_append_left _ (List.mem_append_left _ (List.mem_append_right _ (h)))))))))))
  have hin11 : ∀ w ∈ u_ws RX11 TX11 16, w ∈ wsX11_judge := fun w h => List.mem_cons_of_mem _ (List.mem_append_left _ (List.mem_append_left _ (List.mem_append_left _ (List.mem_append_left _ (List.mem_append_left _ (List.mem_append_left _ (List.mem_append_left _ (List.mem_append_left _ (List.mem_append_left _ (List.mem_append_left _ (List.mem_append_right _ (h))))))))))))
  subst hsz
  have hD := hD0.self (sz := s.heap.size)
  generalize hAe : va_A (cw_w C L K z r A) s.heap.size = Ad at hD hZU hZN ⊢
  have hA : ∀ q : Nat, s.heap.size ≤ q → Ad q := fun q h => by rw [← hAe]; exact Or.inr h
  have hS : va_S Ad s.heap s.heap [] := va_S.rf
  have hl := lv_entry ([.ref y0, .int (hz_i y1)]) (n := 3) (Nat.le_of_ble_eq_true rfl)
  rw [lg_entry_eq]
  generalize (lg_sl ([.ref y0, .int (hz_i y1)]) ++ List.replicate (3 - (lg_sl ([.ref y0, .int (hz_i y1)])).length) Slot.unset).toArray = ls at hl ⊢
  have hl : lv_has ls 3 [(0, .ref y0), (1, .int (hz_i y1))] := hl
  refine mw_Q (fun QQ hQQ => ?_)
  have hP0 := hP; have hD0 := hD; have hS0 := hS; have hl0 := hl; have hw0 := hw
  clear hP hD hS hl hw
  have L36 : ∀ (z : Nat → Nat → Int) (A : Nat → Nat → Int), wp_c11_judge_36 L K z r A  Q X → ∀ (H : Heap) (locs : List Loc) (ls : Array Slot), va_P D vwCl (cw_w C L K z r A) H → va_D Ad (cw_w C L K z r A) → va_S Ad s.heap H locs → lv_has ls 3 [] → W p l e (headSpec wsX11_judge ({ frames := 7, cells := 1, slots := 6, locals := 169 } : Room)).room s m (List.toArray [.ref y0, .int (hz_i y1)]) below meth c H locs 0 0 QQ (F0 m 36 ls []) := by
    intro z A hw H locs ls hP hD hS hl
    subst hQQ
    subst hAe
    obtain ⟨sa, hstr⟩ := hXX.str_223
    exact vx_throwS (names := ["java/lang/RuntimeException", "java/lang/Exception"]) hx hb hlt hown (by decide) (by decide) (hts (.classLink RX11 176 "java/lang/IllegalStateException") (List.mem_cons_of_mem _ (List.mem_append_left _ (List.mem_append_left _ (List.mem_append_left _ (List.mem_append_left _ (List.mem_append_left _ (List.mem_append_left _ (List.mem_append_left _ (List.mem_append_left _ (List.mem_append_left _ (List.mem_append_left _ (List.mem_append_left _ (List.mem_append_left _ (List.mem_of_getElem? (i := 2) rfl))))))))))))))) (hts (.initialized "java/lang/IllegalStateException") (List.mem_cons_of_mem _ (List.mem_append_left _ (List.mem_append_left _ (List.mem_append_left _ (List.mem_append_left _ (List.mem_append_left _ (List.mem_append_left _ (List.mem_append_left _ (List.mem_append_left _ (List.mem_append_left _ (List.mem_append_left _ (List.mem_append_left _ (List.mem_append_left _ (List.mem_of_getElem? (i := 3) rfl))))))))))))))) hstr (vx_hat (fun w h => hts w (List.mem_cons_of_mem _ (List.mem_append_right _ h))) hm_bad_ISE (vx_c (va_Nw.use rfl hXX.cast_ISE) (vx_c (va_Nw.use rfl hXX.dec_R) (vx_c (va_Nw.use rfl hXX.dec_E) (vx_c (va_Nw.use rfl hXX.dec_T) vx_n))))) (by decide +kernel) hZU hZN hS (by rw [hml]; exact hl.1) dX11_judge_36 dX11_judge_39 dX11_judge_40 dX11_judge_42 dX11_judge_45 (fun x h => (hno x h).elim) (Nat.le_of_ble_eq_true rfl) (Nat.le_of_ble_eq_true rfl) (Nat.le_of_ble_eq_true rfl) (Nat.le_of_ble_eq_true rfl) hlocks (fun t hvm hz hk => ⟨(0, z, r, A), trivial, ⟨hw, hP.kept (fun k q hq => hk q.1 ((hP k q hq).lt)), va_K.moved hvm hK, hD⟩, Nat.le_trans hS.1 hz, fun q h1 h2 => (hk q (Nat.lt_of_lt_of_le h1 hS.1)).trans (hS.2.1 q h1 h2)⟩) hS.2.2 (Nat.le_of_ble_eq_true rfl) (Nat.le_of_ble_eq_true rfl)
  have hP := hP0; have hD := hD0; have hS := hS0; have hl := hl0; have hw := hw0
  obtain ⟨H, hH⟩ : ∃ H : Heap, H = s.heap := ⟨_, rfl⟩
  obtain ⟨locs, hlocs⟩ : ∃ L : List Loc, L = [] := ⟨_, rfl⟩
  rw [← hH] at hP
  have hS : va_S Ad s.heap H locs := by rw [hH, hlocs]; exact hS
  refine mw_HL hH hlocs ?_
  refine lv_iload_n hx hb dX11_judge_0 rfl (lv_at hl 1 rfl) ?_
  have hFc := cw_free hD hS hA
  refine va_calli (va_runS (As := [.int (hz_i y1)]) (rest := []) ⟨hx, hb, hml, hown, hts⟩ (k_c11_isPlayer l D _ C L K z r A y1 _ hw) (va_cwS 1 hts gX11_judge_X11_isPlayer rfl rfl rfl (by decide +kernel) ⟨Nat.le_of_ble_eq_true rfl, Nat.le_of_ble_eq_true rfl⟩) ⟨hm_blind, hm_pre hP hK hD hE⟩ rfl rfl hl.1 rfl (lv_room (Nat.le_of_ble_eq_true rfl)) dX11_judge_1 ⟨Nat.le_of_ble_eq_true rfl, Nat.le_of_ble_eq_true rfl⟩) hS (fun q _ h => hFc q h) hFc (fun rv u t H1 locs ht hvm hw hB hz1 hk1 hS => ?_)
  obtain ⟨rv_1, _, _, _⟩ := u
  obtain ⟨hP, hK1, hD1⟩ := hB
  rw [ht] at hP
  obtain ⟨hrv, hw⟩ := hw
  subst hrv
  have hD := hD1.weaken (fun k q _ h => hFc q.1 h)
  have hP : va_P D vwCl (cw_w C L K z r A) H1 := hP
  have hD : va_D Ad (cw_w C L K z r A) := hD
  generalize H1 = H at hP hS ⊢
  refine W.eq (g2 := F0 m 4 ls [.int (hz_i rv_1)]) rfl ?_
  obtain ⟨h9a, hw⟩ := hw
  refine hz_if_ne (tgt := 17) hx hb dX11_judge_4 (by decide) h9a (fun c_2 => ?_) (fun c_2 => ?_)
  · have hw := hw.1 c_2
    refine lv_iload_n hx hb dX11_judge_17 rfl (lv_at hl 1 rfl) ?_
    refine lv_iconst (v := hz_i 1) hx hb dX11_judge_18 (by decide +kernel) ?_
    refine hz_isub hx hb dX11_judge_19 ?_
    refine hz_topi (fun x2_3 hx2_3 => ?_)
    have hw := hw x2_3 hx2_3
    refine lv_istore_n (lv' := [(2, .int (hz_i x2_3)), (0, .ref y0), (1, .int (hz_i y1))]) hx hb dX11_judge_20 rfl hl (by decide) rfl (fun ls hl => ?_)
    refine lv_aload_n hx hb dX11_judge_21 rfl (lv_at hl 1 rfl) ?_
    obtain ⟨hO_4, hw⟩ := hw
    refine cw_get (ci := 11) (v := .int (hz_i (z y0 14))) hx hb hts hin11 hown hK hP hO_4.1 hO_4.2 rfl 14 (by decide) (hts (.fieldLink RX11 87 "HiddenMoves" "hasGame" "Z") (List.mem_cons_of_mem _ (List.mem_append_left _ (List.mem_append_left _ (List.mem_append_left _ (List.mem_append_left _ (List.mem_append_left _ (List.mem_append_left _ (List.mem_append_left _ (List.mem_append_left _ (List.mem_append_left _ (List.mem_append_left _ (List.mem_append_left _ (List.mem_append_left _ (List.mem_of_getElem? (i := 4) rfl))))))))))))))) (fun _ h9 => h9) rfl dX11_judge_22 ?_
    obtain ⟨h9a, hw⟩ := hw
    refine hz_if_eq (tgt := 36) hx hb dX11_judge_25 (by decide) h9a (fun c_5 => ?_) (fun c_5 => ?_)
    · have hw := hw.1 c_5
      exact L36 z A hw H locs ls hP hD hS (lv_sub hl [] rfl)
    · have hw := hw.2 c_5
      refine lv_aload_n hx hb dX11_judge_28 rfl (lv_at hl 1 rfl) ?_
      refine lv_iload_n hx hb dX11_judge_29 rfl (lv_at hl 0 rfl) ?_
      have hFc := cw_free hD hS hA
      obtain ⟨q9, hq9⟩ := cw_at (C := C) (z := z) (r := r) (A := A) hO_4.1 hO_4.2
      refine va_calli (va_runV (As := [.int (hz_i x2_3)]) (rest := []) ⟨hx, hb, hml, hown, hts⟩ (k_c11_isGood l D _ C L K z r A y0 x2_3 _ hw) (cwV 1 hts gX11_judge_X11_isGood rfl rfl rfl (by decide +kernel) ⟨Nat.le_of_ble_eq_true rfl, Nat.le_of_ble_eq_true rfl⟩) ⟨hm_blind, va_recv hK hP (ci := 11) (q0 := q9) rfl hq9, hm_pre hP hK hD hE⟩ rfl rfl hl.1 rfl (lv_room (Nat.le_of_ble_eq_true rfl)) dX11_judge_30 ⟨Nat.le_of_ble_eq_true rfl, Nat.le_of_ble_eq_true rfl⟩) hS (fun q _ h => hFc q h) hFc (fun rv u t H1 locs ht hvm hw hB hz1 hk1 hS => ?_)
      obtain ⟨rv_6, _, _, _⟩ := u
      obtain ⟨hP, hK1, hD1⟩ := hB
      rw [ht] at hP
      obtain ⟨hrv, hw⟩ := hw
      subst hrv
      have hD := hD1.weaken (fun k q _ h => hFc q.1 h)
      have hP : va_P D vwCl (cw_w C L K z r A) H1 := hP
      have hD : va_D Ad (cw_w C L K z r A) := hD
      generalize H1 = H at hP hS ⊢
      refine W.eq (g2 := F0 m 33 ls [.int (hz_i rv_6)]) rfl ?_
      obtain ⟨h9a, hw⟩ := hw
      refine hz_if_ne (tgt := 46) hx hb dX11_judge_33 (by decide) h9a (fun c_7 => ?_) (fun c_7 => ?_)
      · have hw := hw.1 c_7
        refine lv_aload_n hx hb dX11_judge_46 rfl (lv_at hl 1 rfl) ?_
        refine lv_iload_n hx hb dX11_judge_47 rfl (lv_at hl 0 rfl) ?_
        have hFc := cw_free hD hS hA
        obtain ⟨q9, hq9⟩ := cw_at (C := C) (z := z) (r := r) (A := A) hO_4.1 hO_4.2
        refine va_callv (va_runV (As := [.int (hz_i x2_3)]) (rest := []) ⟨hx, hb, hml, hown, hts⟩ (k_c11_spreadWay l D _ C L K z r A y0 x2_3 _ hw) (cwV 1 hts gX11_judge_X11_spreadWay rfl rfl rfl (by decide +kernel) ⟨Nat.le_of_ble_eq_true rfl, Nat.le_of_ble_eq_true rfl⟩) ⟨hm_blind, va_recv hK hP (ci := 11) (q0 := q9) rfl hq9, hm_pre hP hK hD hE⟩ rfl rfl hl.1 rfl (lv_room (Nat.le_of_ble_eq_true rfl)) dX11_judge_48 ⟨Nat.le_of_ble_eq_true rfl, Nat.le_of_ble_eq_true rfl⟩) hS (fun q _ h => hFc q h) hFc (fun u t H1 locs ht hvm hw hB hz1 hk1 hS => ?_)
        obtain ⟨rv_8, z_9, _, A_10⟩ := u
        obtain ⟨hP, hK1, hD1⟩ := hB
        rw [ht] at hP
        have hD := hD1.weaken (fun k q _ h => hFc q.1 h)
        have hP : va_P D vwCl (cw_w C L K z_9 r A_10) H1 := hP
        have hD : va_D Ad (cw_w C L K z_9 r A_10) := hD
        generalize H1 = H at hP hS ⊢
        refine W.eq (g2 := F0 m 51 ls []) rfl ?_
        refine lv_aload_n hx hb dX11_judge_51 rfl (lv_at hl 1 rfl) ?_
        refine cw_get (ci := 11) (v := .ref (r y0 7)) hx hb hts hin11 hown hK hP hO_4.1 hO_4.2 rfl 7 (by decide) (hts (.fieldLink RX11 48 "HiddenMoves" "replies" "[LHiddenMoves$Reply;") (List.mem_cons_of_mem _ (List.mem_append_left _ (List.mem_append_left _ (List.mem_append_left _ (List.mem_append_left _ (List.mem_append_left _ (List.mem_append_left _ (List.mem_append_left _ (List.mem_append_left _ (List.mem_append_left _ (List.mem_append_left _ (List.mem_append_left _ (List.mem_append_left _ (List.mem_of_getElem? (i := 5) rfl))))))))))))))) (fun _ h9 => h9) rfl dX11_judge_52 ?_
        refine lv_iload_n hx hb dX11_judge_55 rfl (lv_at hl 0 rfl) ?_
        obtain ⟨hO_11, hw⟩ := hw
        obtain ⟨h9i, hw⟩ := hw
        refine cw_ald hx hb hK hP hO_11.1 hO_11.2.2 rfl h9i hO_11.2.1 dX11_judge_56 ?_
        refine lv_aload_n hx hb dX11_judge_57 rfl (lv_at hl 1 rfl) ?_
        refine cw_get (ci := 11) (v := .ref (r y0 13)) hx hb hts hin11 hown hK hP hO_4.1 hO_4.2 rfl 13 (by decide) (hts (.fieldLink RX11 83 "HiddenMoves" "game" "LHiddenMoves$Game;") (List.mem_cons_of_mem _ (List.mem_append_left _ (List.mem_append_left _ (List.mem_append_left _ (List.mem_append_left _ (List.mem_append_left _ (List.mem_append_left _ (List.mem_append_left _ (List.mem_append_left _ (List.mem_append_left _ (List.mem_append_left _ (List.mem_append_left _ (List.mem_append_left _ (List.mem_of_getElem? (i := 6) rfl))))))))))))))) (fun _ h9 => h9) rfl dX11_judge_58 ?_
        refine lv_iload_n hx hb dX11_judge_61 rfl (lv_at hl 0 rfl) ?_
        have hFc := cw_free hD hS hA
        refine va_calli (va_runS (As := [.int (hz_i x2_3)]) (rest := [.ref (r y0 13), .ref (cw_g K (r y0 7) (x2_3.toNat))]) ⟨hx, hb, hml, hown, hts⟩ (k_c11_other l D _ C L K z_9 r A_10 x2_3 _ hw) (va_cwS 1 hts gX11_judge_X11_other rfl rfl rfl (by decide +kernel) ⟨Nat.le_of_ble_eq_true rfl, Nat.le_of_ble_eq_true rfl⟩) ⟨hm_blind, hm_pre hP hK hD hE⟩ rfl rfl hl.1 rfl (lv_room (Nat.le_of_ble_eq_true rfl)) dX11_judge_62 ⟨Nat.le_of_ble_eq_true rfl, Nat.le_of_ble_eq_true rfl⟩) hS (fun q _ h => hFc q h) hFc (fun rv u t H1 locs ht hvm hw hB hz1 hk1 hS => ?_)
        obtain ⟨rv_12, _, _, _⟩ := u
        obtain ⟨hP, hK1, hD1⟩ := hB
        rw [ht] at hP
        obtain ⟨hrv, hw⟩ := hw
        subst hrv
        have hD := hD1.weaken (fun k q _ h => hFc q.1 h)
        have hP : va_P D vwCl (cw_w C L K z_9 r A_10) H1 := hP
        have hD : va_D Ad (cw_w C L K z_9 r A_10) := hD
        generalize H1 = H at hP hS ⊢
        refine W.eq (g2 := F0 m 65 ls [.int (hz_i rv_12), .ref (r y0 13), .ref (cw_g K (r y0 7) (x2_3.toNat))]) rfl ?_
        refine lv_aload_n hx hb dX11_judge_65 rfl (lv_at hl 1 rfl) ?_
        refine cw_get (ci := 11) (v := .ref (r y0 5)) hx hb hts hin11 hown hK hP hO_4.1 hO_4.2 rfl 5 (by decide) (hts (.fieldLink RX11 39 "HiddenMoves" "told" "[LHiddenMoves$Mix;") (List.mem_cons_of_mem _ (List.mem_append_left _ (List.mem_append_left _ (List.mem_append_left _ (List.mem_append_left _ (List.mem_append_left _ (List.mem_append_left _ (List.mem_append_left _ (List.mem_append_left _ (List.mem_append_left _ (List.mem_append_left _ (List.mem_append_left _ (List.mem_append_left _ (List.mem_of_getElem? (i := 7) rfl))))))))))))))) (fun _ h9 => h9) rfl dX11_judge_66 ?_
        refine lv_iload_n hx hb dX11_judge_69 rfl (lv_at hl 0 rfl) ?_
        obtain ⟨hO_13, hw⟩ := hw
        obtain ⟨h9i, hw⟩ := hw
        refine cw_ald hx hb hK hP hO_13.1 hO_13.2.2 rfl h9i hO_13.2.1 dX11_judge_70 ?_
        obtain ⟨hO_17, hw⟩ := hw
        have hFc := cw_free hD hS hA
        obtain ⟨q9, hq9⟩ := cw_at (C := C) (z := z_9) (r := r) (A := A_10) hO_17.1 hO_17.2
        refine va_callv (va_runV (As := [.ref (r y0 13), .int (hz_i rv_12), .ref (cw_g K (r y0 5) (x2_3.toNat))]) (rest := []) ⟨hx, hb, hml, hown, hts⟩ (k_c6_work l D _ C L K z_9 r A_10 (cw_g K (r y0 7) (x2_3.toNat)) (r y0 13) rv_12 (cw_g K (r y0 5) (x2_3.toNat)) _ hw) (cwV 3 hts gX11_judge_X6_work rfl rfl rfl (by decide +kernel) ⟨Nat.le_of_ble_eq_true rfl, Nat.le_of_ble_eq_true rfl⟩) ⟨hm_blind, va_recv hK hP (ci := 6) (q0 := q9) rfl hq9, hm_pre hP hK hD hE⟩ rfl rfl hl.1 rfl (lv_room (Nat.le_of_ble_eq_true rfl)) dX11_judge_71 ⟨Nat.le_of_ble_eq_true rfl, Nat.le_of_ble_eq_true rfl⟩) hS (fun q _ h => hFc q h) hFc (fun u t H1 locs ht hvm hw hB hz1 hk1 hS => ?_)
        obtain ⟨rv_14, z_15, _, A_16⟩ := u
        obtain ⟨hP, hK1, hD1⟩ := hB
        rw [ht] at hP
        have hD := hD1.weaken (fun k q _ h => hFc q.1 h)
        have hP : va_P D vwCl (cw_w C L K z_15 r A_16) H1 := hP
        have hD : va_D Ad (cw_w C L K z_15 r A_16) := hD
        generalize H1 = H at hP hS ⊢
        refine W.eq (g2 := F0 m 74 ls []) rfl ?_
        refine lv_aload_n hx hb dX11_judge_74 rfl (lv_at hl 1 rfl) ?_
        refine cw_get (ci := 11) (v := .ref (r y0 9)) hx hb hts hin11 hown hK hP hO_4.1 hO_4.2 rfl 9 (by decide) (hts (.fieldLink RX11 59 "HiddenMoves" "results" "[LHiddenMoves$Ratio;") (List.mem_cons_of_mem _ (List.mem_append_left _ (List.mem_append_left _ (List.mem_append_left _ (List.mem_append_left _ (List.mem_append_left _ (List.mem_append_left _ (List.mem_append_left _ (List.mem_append_left _ (List.mem_append_left _ (List.mem_append_left _ (List.mem_append_left _ (List.mem_append_left _ (List.mem_of_getElem? (i := 8) rfl))))))))))))))) (fun _ h9 => h9) rfl dX11_judge_75 ?_
        refine lv_iconst (v := hz_i 2) hx hb dX11_judge_78 (by decide +kernel) ?_
        refine lv_iload_n hx hb dX11_judge_79 rfl (lv_at hl 0 rfl) ?_
        refine hz_iadd hx hb dX11_judge_80 ?_
        obtain ⟨hO_18, hw⟩ := hw
        obtain ⟨h9i, hw⟩ := hw
        refine cw_ald hx hb hK hP hO_18.1 hO_18.2.2 rfl h9i hO_18.2.1 dX11_judge_81 ?_
        refine lv_aload_n hx hb dX11_judge_82 rfl (lv_at hl 1 rfl) ?_
        refine cw_get (ci := 11) (v := .ref (r y0 7)) hx hb hts hin11 hown hK hP hO_4.1 hO_4.2 rfl 7 (by decide) (hts (.fieldLink RX11 48 "HiddenMoves" "replies" "[LHiddenMoves$Reply;") (List.mem_cons_of_mem _ (List.mem_append_left _ (List.mem_append_left _ (List.mem_append_left _ (List.mem_append_left _ (List.mem_append_left _ (List.mem_append_left _ (List.mem_append_left _ (List.mem_append_left _ (List.mem_append_left _ (List.mem_append_left _ (List.mem_append_left _ (List.mem_append_left _ (List.mem_of_getElem? (i := 5) rfl))))))))))))))) (fun _ h9 => h9) rfl dX11_judge_83 ?_
        refine lv_iload_n hx hb dX11_judge_86 rfl (lv_at hl 0 rfl) ?_
        obtain ⟨h9i, hw⟩ := hw
        refine cw_ald hx hb hK hP hO_11.1 hO_11.2.2 rfl h9i hO_11.2.1 dX11_judge_87 ?_
        have hFc := cw_free hD hS hA
        obtain ⟨q9, hq9⟩ := cw_at (C := C) (z := z_15) (r := r) (A := A_16) hO_17.1 hO_17.2
        refine va_callr (va_runV (As := []) (rest := [.ref (cw_g K (r y0 9) ((2 + x2_3).toNat))]) ⟨hx, hb, hml, hown, hts⟩ (k_c6_worth l D _ C L K z_15 r A_16 (cw_g K (r y0 7) (x2_3.toNat)) _ hw) (cwV 0 hts gX11_judge_X6_worth rfl rfl rfl (by decide +kernel) ⟨Nat.le_of_ble_eq_true rfl, Nat.le_of_ble_eq_true rfl⟩) ⟨hm_blind, va_recv hK hP (ci := 6) (q0 := q9) rfl hq9, hm_pre hP hK hD hE⟩ rfl rfl hl.1 rfl (lv_room (Nat.le_of_ble_eq_true rfl)) dX11_judge_88 ⟨Nat.le_of_ble_eq_true rfl, Nat.le_of_ble_eq_true rfl⟩) hS (fun q _ h => hFc q h) hFc (fun u ra t H1 locs ht hvm hw hB hz1 hk1 hS => ?_)
        obtain ⟨rv_19, _, _, _⟩ := u
        obtain ⟨hra, hP, hK1, hD1⟩ := hB
        have hra := hra.symm
        subst hra
        rw [ht] at hP
        have hD := hD1.weaken (fun k q _ h => hFc q.1 h)
        have hP : va_P D vwCl (cw_w C L K z_15 r A_16) H1 := hP
        have hD : va_D Ad (cw_w C L K z_15 r A_16) := hD
        generalize H1 = H at hP hS ⊢
        refine W.eq (g2 := F0 m 91 ls [.ref rv_19, .ref (cw_g K (r y0 9) ((2 + x2_3).toNat))]) rfl ?_
        refine lv_aload_n hx hb dX11_judge_91 rfl (lv_at hl 1 rfl) ?_
        refine cw_get (ci := 11) (v := .ref (r y0 5)) hx hb hts hin11 hown hK hP hO_4.1 hO_4.2 rfl 5 (by decide) (hts (.fieldLink RX11 39 "HiddenMoves" "told" "[LHiddenMoves$Mix;") (List.mem_cons_of_mem _ (List.mem_append_left _ (List.mem_append_left _ (List.mem_append_left _ (List.mem_append_left _ (List.mem_append_left _ (List.mem_append_left _ (List.mem_append_left _ (List.mem_append_left _ (List.mem_append_left _ (List.mem_append_left _ (List.mem_append_left _ (List.mem_append_left _ (List.mem_of_getElem? (i := 7) rfl))))))))))))))) (fun _ h9 => h9) rfl dX11_judge_92 ?_
        refine lv_iload_n hx hb dX11_judge_95 rfl (lv_at hl 0 rfl) ?_
        obtain ⟨h9i, hw⟩ := hw
        refine cw_ald hx hb hK hP hO_13.1 hO_13.2.2 rfl h9i hO_13.2.1 dX11_judge_96 ?_
        obtain ⟨hO_20, hw⟩ := hw
        refine cw_get (ci := 3) (v := .ref (r (cw_g K (r y0 5) (x2_3.toNat)) 0)) hx hb hts hin3 hown hK hP hO_20.1 hO_20.2 rfl 0 (by decide) (hts (.fieldLink RX11 193 "HiddenMoves$Mix" "parts" "[LHiddenMoves$Big;") (List.mem_cons_of_mem _ (List.mem_append_left _ (List.mem_append_left _ (List.mem_append_left _ (List.mem_append_left _ (List.mem_append_left _ (List.mem_append_left _ (List.mem_append_left _ (List.mem_append_left _ (List.mem_append_left _ (List.mem_append_left _ (List.mem_append_left _ (List.mem_append_left _ (List.mem_of_getElem? (i := 9) rfl))))))))))))))) (fun _ h9 => h9) rfl dX11_judge_97 ?_
        refine lv_iconst (v := hz_i 0) hx hb dX11_judge_100 (by decide +kernel) ?_
        obtain ⟨hO_21, hw⟩ := hw
        obtain ⟨h9i, hw⟩ := hw
        refine cw_ald hx hb hK hP hO_21.1 hO_21.2.2 rfl h9i hO_21.2.1 dX11_judge_101 ?_
        refine lv_aload_n hx hb dX11_judge_102 rfl (lv_at hl 1 rfl) ?_
        refine cw_get (ci := 11) (v := .ref (r y0 13)) hx hb hts hin11 hown hK hP hO_4.1 hO_4.2 rfl 13 (by decide) (hts (.fieldLink RX11 83 "HiddenMoves" "game" "LHiddenMoves$Game;") (List.mem_cons_of_mem _ (List.mem_append_left _ (List.mem_append_left _ (List.mem_append_left _ (List.mem_append_left _ (List.mem_append_left _ (List.mem_append_left _ (List.mem_append_left _ (List.mem_append_left _ (List.mem_append_left _ (List.mem_append_left _ (List.mem_append_left _ (List.mem_append_left _ (List.mem_of_getElem? (i := 6) rfl))))))))))))))) (fun _ h9 => h9) rfl dX11_judge_103 ?_
        obtain ⟨hO_22, hw⟩ := hw
        refine cw_get (ci := 2) (v := .long (hz_l (z_15 (r y0 13) 2))) hx hb hts hin2 hown hK hP hO_22.1 hO_22.2 rfl 2 (by decide) (hts (.fieldLink RX11 197 "HiddenMoves$Game" "common" "J") (List.mem_cons_of_mem _ (List.mem_append_left _ (List.mem_append_left _ (List.mem_append_left _ (List.mem_append_left _ (List.mem_append_left _ (List.mem_append_left _ (List.mem_append_left _ (List.mem_append_left _ (List.mem_append_left _ (List.mem_append_left _ (List.mem_append_left _ (List.mem_append_left _ (List.mem_of_getElem? (i := 10) rfl))))))))))))))) (fun _ h9 => h9) rfl dX11_judge_106 ?_
        obtain ⟨hO_26, hw⟩ := hw
        have hFc := cw_free hD hS hA
        obtain ⟨q9, hq9⟩ := cw_at (C := C) (z := z_15) (r := r) (A := A_16) hO_26.1 hO_26.2
        refine va_callv (va_runV (As := [.ref rv_19, .ref (cw_g K (r (cw_g K (r y0 5) (x2_3.toNat)) 0) ((0 : Int).toNat)), .long (hz_l (z_15 (r y0 13) 2))]) (rest := []) ⟨hx, hb, hml, hown, hts⟩ (k_c4_put l D _ C L K z_15 r A_16 (cw_g K (r y0 9) ((2 + x2_3).toNat)) rv_19 (cw_g K (r (cw_g K (r y0 5) (x2_3.toNat)) 0) ((0 : Int).toNat)) (z_15 (r y0 13) 2) _ hw) (cwV 3 hts gX11_judge_X4_put rfl rfl rfl (by decide +kernel) ⟨Nat.le_of_ble_eq_true rfl, Nat.le_of_ble_eq_true rfl⟩) ⟨hm_blind, va_recv hK hP (ci := 4) (q0 := q9) rfl hq9, hm_pre hP hK hD hE⟩ rfl rfl hl.1 rfl (lv_room (Nat.le_of_ble_eq_true rfl)) dX11_judge_109 ⟨Nat.le_of_ble_eq_true rfl, Nat.le_of_ble_eq_true rfl⟩) hS (fun q _ h => hFc q h) hFc (fun u t H1 locs ht hvm hw hB hz1 hk1 hS => ?_)
        obtain ⟨rv_23, z_24, _, A_25⟩ := u
        obtain ⟨hP, hK1, hD1⟩ := hB
        rw [ht] at hP
        have hD := hD1.weaken (fun k q _ h => hFc q.1 h)
        have hP : va_P D vwCl (cw_w C L K z_24 r A_25) H1 := hP
        have hD : va_D Ad (cw_w C L K z_24 r A_25) := hD
        generalize H1 = H at hP hS ⊢
        refine W.eq (g2 := F0 m 112 ls []) rfl ?_
        subst hQQ
        subst hAe
        refine vx_ret (W.widen (k := 1) (n := 6) (by omega) (by omega) ?_)
        exact W.vret hx hb hr (fun t ht hW => ⟨⟨(0, z_24, r, A_25), rfl, hw, by rw [ht]; exact hP, va_K.moved hW.alike hK, hD⟩, hS.F ht⟩) hS.2.2 dX11_judge_112
      · have hw := hw.2 c_7
        exact L36 z A hw H locs ls hP hD hS (lv_sub hl [] rfl)
  · have hw := hw.2 c_2
    subst hQQ
    subst hAe
    obtain ⟨sa, hstr⟩ := hXX.str_221
    exact vx_throwS (names := ["java/lang/RuntimeException", "java/lang/Exception"]) hx hb hlt hown (by decide) (by decide) (hts (.classLink RX11 164 "java/lang/IllegalArgumentException") (List.mem_cons_of_mem _ (List.mem_append_left _ (List.mem_append_left _ (List.mem_append_left _ (List.mem_append_left _ (List.mem_append_left _ (List.mem_append_left _ (List.mem_append_left _ (List.mem_append_left _ (List.mem_append_left _ (List.mem_append_left _ (List.mem_append_left _ (List.mem_append_left _ (List.mem_of_getElem? (i := 0) rfl))))))))))))))) (hts (.initialized "java/lang/IllegalArgumentException") (List.mem_cons_of_mem _ (List.mem_append_left _ (List.mem_append_left _ (List.mem_append_left _ (List.mem_append_left _ (List.mem_append_left _ (List.mem_append_left _ (List.mem_append_left _ (List.mem_append_left _ (List.mem_append_left _ (List.mem_append_left _ (List.mem_append_left _ (List.mem_append_left _ (List.mem_of_getElem? (i := 1) rfl))))))))))))))) hstr (vx_hat (fun w h => hts w (List.mem_cons_of_mem _ (List.mem_append_left _ (List.mem_append_right _ h)))) hm_bad_IAE (vx_c (va_Nw.use rfl hXX.cast_IAE) (vx_c (va_Nw.use rfl hXX.dec_R) (vx_c (va_Nw.use rfl hXX.dec_E) (vx_c (va_Nw.use rfl hXX.dec_T) vx_n))))) (by decide +kernel) hZU hZN hS (by rw [hml]; exact hl.1) dX11_judge_7 dX11_judge_10 dX11_judge_11 dX11_judge_13 dX11_judge_16 (fun x h => (hno x h).elim) (Nat.le_of_ble_eq_true rfl) (Nat.le_of_ble_eq_true rfl) (Nat.le_of_ble_eq_true rfl) (Nat.le_of_ble_eq_true rfl) hlocks (fun t hvm hz hk => ⟨(0, z, r, A), trivial, ⟨hw, hP.kept (fun k q hq => hk q.1 ((hP k q hq).lt)), va_K.moved hvm hK, hD⟩, Nat.le_trans hS.1 hz, fun q h1 h2 => (hk q (Nat.lt_of_lt_of_le h1 hS.1)).trans (hS.2.1 q h1 h2)⟩) hS.2.2 (Nat.le_of_ble_eq_true rfl) (Nat.le_of_ble_eq_true rfl)

