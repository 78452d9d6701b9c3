set_option maxHeartbeats 1000000 in
set_option maxRecDepth 100000 in
/-- typedCharacter(typed, i) -/
theorem c_X10_typedCharacter (l : Launch) (D : va_G) (sz : Nat) (p0 : Int64) (p1 : Int32) : Met l yX10_typedCharacter wsX10_typedCharacter ({ frames := 0, cells := 0, slots := 0, locals := 0 }) (va_Pc [.long p0, .int p1] (hm_P D [] [] sz)) (va_Qi (fun (r : Int32) (_ : Unit) => r = (hm_T p0 p1)) (fun _ t => hm_B D (va_A [] sz) [] [] t) (va_A [] sz)) 0 0 (va_A [] sz) := by
  refine Met.ofW (cc := cX10_typedCharacter) (maxL := 3) (ret := (some .int)) (by decide) rfl ?_
  intro p e s m args below meth c s₁ B hml hv
  obtain ⟨rfl, hsz, hP, hK, hD0, hE⟩ := hv
  have hx := B.exec
  have hb := B.bytes
  have hr := B.returns
  have hts := atoms_spec (ws := wsX10_typedCharacter) B.pre
  have hown : s.vm.findClass RX10 = some m.cls := findClass_of_methodNamed B.named
  have hlocks := B.notSynchronized
  subst hsz
  have hD := hD0.self (sz := s.heap.size)
  generalize hAe : va_A [] s.heap.size = A at hD ⊢
  have hA : ∀ q : Nat, s.heap.size ≤ q → A q := fun q h => by rw [← hAe]; exact Or.inr h
  have hS : va_S A s.heap s.heap [] := va_S.rf
  have hP : va_P D vwCl [] s.heap := hP
  have hl := lv_entry ([.long p0, .int p1]) (n := 3) (Nat.le_of_ble_eq_true rfl)
  rw [lg_entry_eq]
  generalize (lg_sl ([.long p0, .int p1]) ++ List.replicate (3 - (lg_sl ([.long p0, .int p1])).length) Slot.unset).toArray = ls at hl ⊢
  have hl : lv_has ls 3 [(0, .long p0), (2, .int p1)] := hl
  refine lv_lload_n hx hb dX10_typedCharacter_0 rfl (lv_at hl 0 rfl) ?_
  refine lv_bipush (v := (8)) hx hb dX10_typedCharacter_1 (by decide) ?_
  refine lv_iload_n hx hb dX10_typedCharacter_3 rfl (lv_at hl 1 rfl) ?_
  refine lv_imul hx hb dX10_typedCharacter_4 ?_
  refine lv_topi (fun z1 ez1 => ?_)
  refine lv_lushr (v := (p0.toUInt64 >>> (z1.toInt64.toUInt64 &&& Int64.toUInt64 63)).toInt64) hx hb dX10_typedCharacter_5 rfl ?_
  refine lv_topl (fun z2 ez2 => ?_)
  refine lv_l2i (v := z2.toInt32) hx hb dX10_typedCharacter_6 rfl ?_
  refine lv_topi (fun z3 ez3 => ?_)
  refine lv_sipush (v := (255)) hx hb dX10_typedCharacter_7 (by decide) ?_
  refine lv_iand hx hb dX10_typedCharacter_10 ?_
  refine lv_topi (fun z4 ez4 => ?_)
  have hP9 := hP.sub (ws' := []) [] rfl
  have hD9 := hD.sub (ws' := []) [] (by decide) rfl
  have hK9 := hK.sub (tys' := []) [] rfl
  exact W.iret (v := z4) hx hb hr (fun t ht hW => ⟨⟨z4, (), rfl, (by rw [ez4, ez3, ez2, ez1]; rfl), by rw [ht]; exact hP9, va_K.moved hW.alike hK9, hD9⟩, hS.F ht⟩) hS.2.2 dX10_typedCharacter_11

set_option maxHeartbeats 1000000 in
set_option maxRecDepth 100000 in
/-- append(typed, n) on an empty text -/
theorem c_X10_append (l : Launch) (D : va_G) (sz : Nat) (ow : Nat) (a10_characters : Nat) (i10_kind : Int32) (i10_begin : Int32) (i10_value : Int32) (i10_behind : Int32) (cCH : ClassId) (fc0 : Nat → Int32) (p0 : Int64) (p1 : Int32) : Met l yX10_append wsX10_append ({ frames := 1, cells := 0, slots := 0, locals := 22 }) (va_Pc [.ref ow, .long p0, .int p1] (hm_P D [(ow, .inr (10, [.ref a10_characters, .int 0, .int i10_kind, .int i10_begin, .int i10_value, .int i10_behind])), (a10_characters, .inl (cCH, 4000, .inl fc0))] [(cCH, .char)] sz)) (va_Qi (fun (r : Int32) (_ : Unit) => r = (hm_app p0 p1)) (fun _ t => ∃ (fc : Nat → Int32), hm_B D (va_A [(ow, .inr (10, [.ref a10_characters, .int 0, .int i10_kind, .int i10_begin, .int i10_value, .int i10_behind])), (a10_characters, .inl (cCH, 4000, .inl fc0))] sz) [(ow, .inr (10, [.ref a10_characters, .int (hm_len p0 p1), .int i10_kind, .int i10_begin, .int i10_value, .int i10_behind])), (a10_characters, .inl (cCH, 4000, .inl fc))] [(cCH, .char)] t) (va_A [(ow, .inr (10, [.ref a10_characters, .int 0, .int i10_kind, .int i10_begin, .int i10_value, .int i10_behind])), (a10_characters, .inl (cCH, 4000, .inl fc0))] sz)) 0 0 (va_A [(ow, .inr (10, [.ref a10_characters, .int 0, .int i10_kind, .int i10_begin, .int i10_value, .int i10_behind])), (a10_characters, .inl (cCH, 4000, .inl fc0))] sz) := by
  refine Met.ofW (cc := cX10_append) (maxL := 6) (ret := (some .boolean)) (by decide) rfl ?_
  intro p e s m args below meth c s₁ B hml hv
  obtain ⟨rfl, hsz, hP, hK, hD0, hE⟩ := hv
  have hx := B.exec
  have hb := B.bytes
  have hr := B.returns
  have hts := atoms_spec (ws := wsX10_append) B.pre
  have hown : s.vm.findClass RX10 = some m.cls := findClass_of_methodNamed B.named
  have hlocks := B.notSynchronized
  subst hsz
  have hD := hD0.self (sz := s.heap.size)
  generalize hAe : va_A [(ow, .inr (10, [.ref a10_characters, .int 0, .int i10_kind, .int i10_begin, .int i10_value, .int i10_behind])), (a10_characters, .inl (cCH, 4000, .inl fc0))] s.heap.size = A at hD ⊢
  have hA : ∀ q : Nat, s.heap.size ≤ q → A q := fun q h => by rw [← hAe]; exact Or.inr h
  have hS : va_S A s.heap s.heap [] := va_S.rf
  have hP : va_P D vwCl [(ow, .inr (10, [.ref a10_characters, .int 0, .int i10_kind, .int i10_begin, .int i10_value, .int i10_behind])), (a10_characters, .inl (cCH, 4000, .inl fc0))] s.heap := hP
  have hl := lv_entry ([.ref ow, .long p0, .int p1]) (n := 6) (Nat.le_of_ble_eq_true rfl)
  rw [lg_entry_eq]
  generalize (lg_sl ([.ref ow, .long p0, .int p1]) ++ List.replicate (6 - (lg_sl ([.ref ow, .long p0, .int p1])).length) Slot.unset).toArray = ls at hl ⊢
  have hl : lv_has ls 6 [(0, .ref ow), (1, .long p0), (3, .int p1)] := hl
  refine lv_iload_n hx hb dX10_append_0 rfl (lv_at hl 2 rfl) ?_
  refine lv_iconst (v := 1) hx hb dX10_append_1 (by decide) ?_
  refine lv_icmp_lt (tgt := 23) hx hb dX10_append_2 (by decide) (fun c1 => ?_) (fun c1 => ?_)
  · have e1 : hm_len p0 p1 = 0 := if_neg (hm_nok1 c1)
    have e2 : hm_app p0 p1 = 0 := if_neg (hm_nok1 c1)
    rw [e1, e2]
    refine lv_iconst (v := 0) hx hb dX10_append_23 (by decide) ?_
    have hP9 := hP.sub (ws' := [(ow, .inr (10, [.ref a10_characters, .int 0, .int i10_kind, .int i10_begin, .int i10_value, .int i10_behind])), (a10_characters, .inl (cCH, 4000, .inl fc0))]) [0, 1] rfl
    have hD9 := hD.sub (ws' := [(ow, .inr (10, [.ref a10_characters, .int 0, .int i10_kind, .int i10_begin, .int i10_value, .int i10_behind])), (a10_characters, .inl (cCH, 4000, .inl fc0))]) [0, 1] (by decide) rfl
    have hK9 := hK.sub (tys' := [(cCH, .char)]) [0] rfl
    exact W.zret (v := 0) hx hb hr rfl (fun t ht hW => ⟨⟨0, (), rfl, rfl, fc0, by rw [ht]; exact hP9, va_K.moved hW.alike hK9, hD9⟩, hS.F ht⟩) hS.2.2 dX10_append_24
  · refine lv_iload_n hx hb dX10_append_5 rfl (lv_at hl 2 rfl) ?_
    refine lv_bipush (v := (8)) hx hb dX10_append_6 (by decide) ?_
    refine lv_icmp_gt (tgt := 23) hx hb dX10_append_8 (by decide) (fun c2 => ?_) (fun c2 => ?_)
    · have e1 : hm_len p0 p1 = 0 := if_neg (hm_nok8 c2)
      have e2 : hm_app p0 p1 = 0 := if_neg (hm_nok8 c2)
      rw [e1, e2]
      refine lv_iconst (v := 0) hx hb dX10_append_23 (by decide) ?_
      have hP9 := hP.sub (ws' := [(ow, .inr (10, [.ref a10_characters, .int 0, .int i10_kind, .int i10_begin, .int i10_value, .int i10_behind])), (a10_characters, .inl (cCH, 4000, .inl fc0))]) [0, 1] rfl
      have hD9 := hD.sub (ws' := [(ow, .inr (10, [.ref a10_characters, .int 0, .int i10_kind, .int i10_begin, .int i10_value, .int i10_behind])), (a10_characters, .inl (cCH, 4000, .inl fc0))]) [0, 1] (by decide) rfl
      have hK9 := hK.sub (tys' := [(cCH, .char)]) [0] rfl
      exact W.zret (v := 0) hx hb hr rfl (fun t ht hW => ⟨⟨0, (), rfl, rfl, fc0, by rw [ht]; exact hP9, va_K.moved hW.alike hK9, hD9⟩, hS.F ht⟩) hS.2.2 dX10_append_24
    · obtain ⟨j, h1, h8, rfl⟩ := hm_nI c1 c2
      have hl : lv_has ls 6 [(0, .ref ow), (1, .long p0), (3, .int (nI j))] := hl
      refine lv_aload_n hx hb dX10_append_11 rfl (lv_at hl 0 rfl) ?_
      refine va_get (D := D) (ci := 10) (v := .int 0) (C := RX10) (T := TX10) (N := 6) hx hb hts (by decide +kernel) hown hK hP 0 rfl rfl 1 (by decide) (hts (.fieldLink RX10 15 "HiddenMoves$Words" "length" "I") (by decide +kernel)) (fun _ h9 => h9) rfl dX10_append_12 ?_
      refine lv_iload_n hx hb dX10_append_15 rfl (lv_at hl 2 rfl) ?_
      refine lv_iadd hx hb dX10_append_16 ?_
      refine lv_topi (fun z3 ez3 => ?_)
      refine lv_sipush (v := (4000)) hx hb dX10_append_17 (by decide) ?_
      refine lv_icmp_le (tgt := 25) hx hb dX10_append_20 (by decide) (fun c4 => ?_) (fun c4 => ?_)
      · refine lv_iconst (v := 0) hx hb dX10_append_25 (by decide) ?_
        refine lv_istore (lv' := [(4, .int 0), (0, .ref ow), (1, .long p0), (3, .int (nI j))]) hx hb dX10_append_26 hl (by decide) rfl (fun ls hl => ?_)
        refine hm_loop (σ := Unit) j (fun i _ H locs ls => (∀ k, k < i → 32 ≤ hm_b p0 k ∧ hm_b p0 k ≤ 126) ∧ va_P D vwCl [(ow, .inr (10, [.ref a10_characters, .int 0, .int i10_kind, .int i10_begin, .int i10_value, .int i10_behind])), (a10_characters, .inl (cCH, 4000, .inl fc0))] H ∧ va_D A [(ow, .inr (10, [.ref a10_characters, .int 0, .int i10_kind, .int i10_begin, .int i10_value, .int i10_behind])), (a10_characters, .inl (cCH, 4000, .inl fc0))] ∧ va_S A s.heap H locs ∧ lv_has ls 6 [(4, .int (nI i)), (0, .ref ow), (1, .long p0), (3, .int (nI j))]) (fun _ => 0) (fun _ => 0) 28 ?_ ?_ () ⟨fun k hk => absurd hk (by omega), hP, hD, hS, lv_sub hl [0, 1, 2, 3] rfl⟩
        · intro x H locs ls hI
          obtain ⟨hall, hP, hD, hS, hl⟩ := hI
          have hl : lv_has ls 6 [(4, .int (nI j)), (0, .ref ow), (1, .long p0), (3, .int (nI j))] := hl
          refine lv_iload hx hb dX10_append_28 (lv_at hl 0 rfl) ?_
          refine lv_iload_n hx hb dX10_append_30 rfl (lv_at hl 3 rfl) ?_
          refine lv_icmp_ge (tgt := 64) hx hb dX10_append_31 (by decide) (fun _ => ?_) (fun c9 => absurd (Int32.le_refl _) c9)
          have hok : hm_ok p0 (nI j) := ⟨j, h1, h8, rfl, hall⟩
          have e1 : hm_len p0 (nI j) = nI j := if_pos hok
          have e2 : hm_app p0 (nI j) = 1 := if_pos hok
          rw [e1, e2]
          refine lv_iload_n hx hb dX10_append_64 rfl (lv_at hl 3 rfl) ?_
          refine lv_iconst (v := 1) hx hb dX10_append_65 (by decide) ?_
          refine lv_isub hx hb dX10_append_66 ?_
          refine lv_topi (fun z5 ez5 => ?_)
          refine lv_istore (lv' := [(4, .int z5), (0, .ref ow), (1, .long p0), (3, .int (nI j))]) hx hb dX10_append_67 hl (by decide) rfl (fun ls hl => ?_)
          subst ez5
          refine hm_loop (σ := Nat → Int32) j (fun tt f H locs ls => va_P D vwCl [(ow, .inr (10, [.ref a10_characters, .int (nI tt), .int i10_kind, .int i10_begin, .int i10_value, .int i10_behind])), (a10_characters, .inl (cCH, 4000, .inl f))] H ∧ va_D A [(ow, .inr (10, [.ref a10_characters, .int (nI tt), .int i10_kind, .int i10_begin, .int i10_value, .int i10_behind])), (a10_characters, .inl (cCH, 4000, .inl f))] ∧ va_S A s.heap H locs ∧ lv_has ls 6 [(4, .int (nI (j - tt) - 1)), (0, .ref ow), (1, .long p0), (3, .int (nI j))]) (fun _ => 0) (fun _ => 0) 69 ?_ ?_ fc0 ⟨hP, hD, hS, lv_sub hl [0, 1, 2, 3] rfl⟩
          · intro f H locs ls hI
            obtain ⟨hP, hD, hS, hl⟩ := hI
            rw [Nat.sub_self] at hl
            have hl : lv_has ls 6 [(4, .int (-1)), (0, .ref ow), (1, .long p0), (3, .int (nI j))] := hl
            have hP : va_P D vwCl [(ow, .inr (10, [.ref a10_characters, .int (nI j), .int i10_kind, .int i10_begin, .int i10_value, .int i10_behind])), (a10_characters, .inl (cCH, 4000, .inl f))] H := hP
            have hD : va_D A [(ow, .inr (10, [.ref a10_characters, .int (nI j), .int i10_kind, .int i10_begin, .int i10_value, .int i10_behind])), (a10_characters, .inl (cCH, 4000, .inl f))] := hD
            refine lv_iload hx hb dX10_append_69 (lv_at hl 0 rfl) ?_
            refine lv_if_lt (tgt := 106) hx hb dX10_append_71 (by decide) (fun _ => ?_) (fun c9 => absurd (by decide) c9)
            refine lv_iconst (v := 1) hx hb dX10_append_106 (by decide) ?_
            have hP9 := hP.sub (ws' := [(ow, .inr (10, [.ref a10_characters, .int (nI j), .int i10_kind, .int i10_begin, .int i10_value, .int i10_behind])), (a10_characters, .inl (cCH, 4000, .inl f))]) [0, 1] rfl
            have hD9 := hD.sub (ws' := [(ow, .inr (10, [.ref a10_characters, .int (nI j), .int i10_kind, .int i10_begin, .int i10_value, .int i10_behind])), (a10_characters, .inl (cCH, 4000, .inl f))]) [0, 1] (by decide) rfl
            have hK9 := hK.sub (tys' := [(cCH, .char)]) [0] rfl
            exact W.zret (v := 1) hx hb hr rfl (fun t ht hW => ⟨⟨1, (), rfl, rfl, f, by rw [ht]; exact hP9, va_K.moved hW.alike hK9, hD9⟩, hS.F ht⟩) hS.2.2 dX10_append_107
          · intro tt f H locs ls hi hI ih
            obtain ⟨hP, hD, hS, hl⟩ := hI
            obtain ⟨q, hq⟩ : ∃ q, j - tt = q + 1 := ⟨j - tt - 1, by omega⟩
            rw [hq, nI_pred] at hl
            have hl : lv_has ls 6 [(4, .int (nI q)), (0, .ref ow), (1, .long p0), (3, .int (nI j))] := hl
            have hP : va_P D vwCl [(ow, .inr (10, [.ref a10_characters, .int (nI tt), .int i10_kind, .int i10_begin, .int i10_value, .int i10_behind])), (a10_characters, .inl (cCH, 4000, .inl f))] H := hP
            have hD : va_D A [(ow, .inr (10, [.ref a10_characters, .int (nI tt), .int i10_kind, .int i10_begin, .int i10_value, .int i10_behind])), (a10_characters, .inl (cCH, 4000, .inl f))] := hD
            refine lv_iload hx hb dX10_append_69 (lv_at hl 0 rfl) ?_
            refine lv_if_lt (tgt := 106) hx hb dX10_append_71 (by decide) (fun c9 => absurd c9 (nI_pos (by omega))) (fun _ => ?_)
            refine lv_aload_n hx hb dX10_append_74 rfl (lv_at hl 1 rfl) ?_
            refine va_get (D := D) (ci := 10) (v := .ref a10_characters) (C := RX10) (T := TX10) (N := 6) hx hb hts (by decide +kernel) hown hK hP 0 rfl rfl 0 (by decide) (hts (.fieldLink RX10 9 "HiddenMoves$Words" "characters" "[C") (by decide +kernel)) (fun _ h9 => h9) rfl dX10_append_75 ?_
            refine lv_aload_n hx hb dX10_append_78 rfl (lv_at hl 1 rfl) ?_
            refine va_get (D := D) (ci := 10) (v := .int (nI tt)) (C := RX10) (T := TX10) (N := 6) hx hb hts (by decide +kernel) hown hK hP 0 rfl rfl 1 (by decide) (hts (.fieldLink RX10 15 "HiddenMoves$Words" "length" "I") (by decide +kernel)) (fun _ h9 => h9) rfl dX10_append_79 ?_
            refine lv_lload_n hx hb dX10_append_82 rfl (lv_at hl 2 rfl) ?_
            refine lv_iload hx hb dX10_append_83 (lv_at hl 0 rfl) ?_
            have hPc := hP.sub (ws' := []) [] rfl
            have hDc := hD.sub (ws' := []) [] (by decide) rfl
            have hKc := hK.sub (tys' := []) [] rfl
            have hFc := va_free (wc := []) hD hS hA [] rfl
            refine va_calli (va_runS (As := [.long p0, .int (nI q)]) (rest := [.int (nI tt), .ref a10_characters]) ⟨hx, hb, hml, hown, hts⟩ (c_X10_typedCharacter l D _ p0 (nI q)) (va_cwS 2 hts gX10_append_X10_typedCharacter rfl rfl rfl (by decide +kernel) ⟨Nat.le_of_ble_eq_true rfl, Nat.le_of_ble_eq_true rfl⟩) ⟨hm_blind, hm_pre hPc hKc hDc hE⟩ rfl rfl hl.1 rfl (lv_room (Nat.le_of_ble_eq_true rfl)) dX10_append_85 ⟨(Nat.le_of_ble_eq_true rfl), (Nat.le_of_ble_eq_true rfl)⟩) hS (fun q _ h => hFc q h) hFc (fun rv6 u t H1 locs ht hvm hw hB hz1 hk1 hS => ?_)
            obtain ⟨hP1, hK1, hD1⟩ := hB
            rw [ht] at hP1
            have hK1 := va_K.moved hvm.symm hK1
            obtain ⟨hP, hD⟩ := va_join (wr := [(ow, .inr (10, [.ref a10_characters, .int (nI tt), .int i10_kind, .int i10_begin, .int i10_value, .int i10_behind])), (a10_characters, .inl (cCH, 4000, .inl f))]) (w1 := []) hP hD [] [0, 1] rfl rfl (by decide) (by decide) hk1 hFc hP1 hD1
            have hK := (hK.sub (tys' := [(cCH, .char)]) [0] rfl).app hK1
            generalize H1 = H at hP hS ⊢
            have hP : va_P D vwCl [(ow, .inr (10, [.ref a10_characters, .int (nI tt), .int i10_kind, .int i10_begin, .int i10_value, .int i10_behind])), (a10_characters, .inl (cCH, 4000, .inl f))] H := hP
            have hD : va_D A [(ow, .inr (10, [.ref a10_characters, .int (nI tt), .int i10_kind, .int i10_begin, .int i10_value, .int i10_behind])), (a10_characters, .inl (cCH, 4000, .inl f))] := hD
            have hK : va_K D vwCl [(cCH, .char)] s := hK
            refine W.widen (k := 0) (n := 0) (by omega) (by omega) ?_
            obtain rfl : rv6 = (hm_T p0 (nI q)) := hw
            refine lv_i2c (v := (((hm_T p0 (nI q)) : Int32).toUInt32 % 65536).toInt32) hx hb dX10_append_88 rfl ?_
            refine lv_topi (fun z7 ez7 => ?_)
            refine va_cast hx hb hK hP hD hS 1 0 rfl rfl (vp_in_nI (n := tt) (N := 4000) (by omega) (by decide)) dX10_append_89 (fun H locs hP hD hS => ?_)
            have hP : va_P D vwCl [(ow, .inr (10, [.ref a10_characters, .int (nI tt), .int i10_kind, .int i10_begin, .int i10_value, .int i10_behind])), (a10_characters, .inl (cCH, 4000, .inl (upd f ((nI tt) : Int32).toNatClampNeg (vp_nar .char z7))))] H := hP
            have hD : va_D A [(ow, .inr (10, [.ref a10_characters, .int (nI tt), .int i10_kind, .int i10_begin, .int i10_value, .int i10_behind])), (a10_characters, .inl (cCH, 4000, .inl (upd f ((nI tt) : Int32).toNatClampNeg (vp_nar .char z7))))] := hD
            refine lv_aload_n hx hb dX10_append_90 rfl (lv_at hl 1 rfl) ?_
            refine lv_dup hx hb dX10_append_91 rfl ?_
            refine va_get (D := D) (ci := 10) (v := .int (nI tt)) (C := RX10) (T := TX10) (N := 6) hx hb hts (by decide +kernel) hown hK hP 0 rfl rfl 1 (by decide) (hts (.fieldLink RX10 15 "HiddenMoves$Words" "length" "I") (by decide +kernel)) (fun _ h9 => h9) rfl dX10_append_92 ?_
            refine lv_iconst (v := 1) hx hb dX10_append_95 (by decide) ?_
            refine lv_iadd hx hb dX10_append_96 ?_
            refine lv_topi (fun z8 ez8 => ?_)
            obtain rfl : z8 = nI (tt + 1) := ez8.trans (nI_1 tt)
            refine va_put (D := D) (ci := 10) (v := .int (nI (tt + 1))) (ty := .int) (C := RX10) (T := TX10) (N := 6) hx hb hts (by decide +kernel) tyX10 tyX10_ok nmX10 hown hK hP hD hS 0 rfl rfl 1 (by decide) (hts (.fieldLink RX10 15 "HiddenMoves$Words" "length" "I") (by decide +kernel)) (fun _ h9 => h9) rfl (by decide +kernel) rfl rfl (Nat.le_of_ble_eq_true rfl) dX10_append_97 (fun H locs hP hD hS => ?_)
            have hP : va_P D vwCl [(ow, .inr (10, [.ref a10_characters, .int (nI (tt + 1)), .int i10_kind, .int i10_begin, .int i10_value, .int i10_behind])), (a10_characters, .inl (cCH, 4000, .inl (upd f ((nI tt) : Int32).toNatClampNeg (vp_nar .char z7))))] H := hP
            have hD : va_D A [(ow, .inr (10, [.ref a10_characters, .int (nI (tt + 1)), .int i10_kind, .int i10_begin, .int i10_value, .int i10_behind])), (a10_characters, .inl (cCH, 4000, .inl (upd f ((nI tt) : Int32).toNatClampNeg (vp_nar .char z7))))] := hD
            refine lv_iinc (v := nI (j - (tt + 1)) - 1) (lv' := [(4, .int (nI (j - (tt + 1)) - 1)), (0, .ref ow), (1, .long p0), (3, .int (nI j))]) hx hb dX10_append_100 hl (k := 0) rfl (by rw [show j - (tt + 1) = q by omega]; exact hm_dec _) (by decide) rfl (fun ls hl => ?_)
            refine lv_goto (tgt := 69) hx hb dX10_append_103 (by decide) ?_
            exact ih (upd f ((nI tt) : Int32).toNatClampNeg (vp_nar .char z7)) _ _ _ ⟨hP, hD, hS, lv_sub hl [0, 1, 2, 3] rfl⟩
        · intro i x H locs ls hi hI ih
          obtain ⟨hall, hP, hD, hS, hl⟩ := hI
          have hl : lv_has ls 6 [(4, .int (nI i)), (0, .ref ow), (1, .long p0), (3, .int (nI j))] := hl
          refine lv_iload hx hb dX10_append_28 (lv_at hl 0 rfl) ?_
          refine lv_iload_n hx hb dX10_append_30 rfl (lv_at hl 3 rfl) ?_
          refine lv_icmp_ge (tgt := 64) hx hb dX10_append_31 (by decide) (fun c9 => absurd c9 (nI_ge hi (by omega))) (fun _ => ?_)
          refine lv_lload_n hx hb dX10_append_34 rfl (lv_at hl 2 rfl) ?_
          refine lv_iload hx hb dX10_append_35 (lv_at hl 0 rfl) ?_
          have hPc := hP.sub (ws' := []) [] rfl
          have hDc := hD.sub (ws' := []) [] (by decide) rfl
          have hKc := hK.sub (tys' := []) [] rfl
          have hFc := va_free (wc := []) hD hS hA [] rfl
          refine va_calli (va_runS (As := [.long p0, .int (nI i)]) (rest := []) ⟨hx, hb, hml, hown, hts⟩ (c_X10_typedCharacter l D _ p0 (nI i)) (va_cwS 2 hts gX10_append_X10_typedCharacter rfl rfl rfl (by decide +kernel) ⟨Nat.le_of_ble_eq_true rfl, Nat.le_of_ble_eq_true rfl⟩) ⟨hm_blind, hm_pre hPc hKc hDc hE⟩ rfl rfl hl.1 rfl (lv_room (Nat.le_of_ble_eq_true rfl)) dX10_append_37 ⟨(Nat.le_of_ble_eq_true rfl), (Nat.le_of_ble_eq_true rfl)⟩) hS (fun q _ h => hFc q h) hFc (fun rv9 u t H1 locs ht hvm hw hB hz1 hk1 hS => ?_)
          obtain ⟨hP1, hK1, hD1⟩ := hB
          rw [ht] at hP1
          have hK1 := va_K.moved hvm.symm hK1
          obtain ⟨hP, hD⟩ := va_join (wr := [(ow, .inr (10, [.ref a10_characters, .int 0, .int i10_kind, .int i10_begin, .int i10_value, .int i10_behind])), (a10_characters, .inl (cCH, 4000, .inl fc0))]) (w1 := []) hP hD [] [0, 1] rfl rfl (by decide) (by decide) hk1 hFc hP1 hD1
          have hK := (hK.sub (tys' := [(cCH, .char)]) [0] rfl).app hK1
          generalize H1 = H at hP hS ⊢
          have hP : va_P D vwCl [(ow, .inr (10, [.ref a10_characters, .int 0, .int i10_kind, .int i10_begin, .int i10_value, .int i10_behind])), (a10_characters, .inl (cCH, 4000, .inl fc0))] H := hP
          have hD : va_D A [(ow, .inr (10, [.ref a10_characters, .int 0, .int i10_kind, .int i10_begin, .int i10_value, .int i10_behind])), (a10_characters, .inl (cCH, 4000, .inl fc0))] := hD
          have hK : va_K D vwCl [(cCH, .char)] s := hK
          refine W.widen (k := 0) (n := 0) (by omega) (by omega) ?_
          obtain rfl : rv9 = (hm_T p0 (nI i)) := hw
          refine lv_istore (lv' := [(5, .int (hm_T p0 (nI i))), (4, .int (nI i)), (0, .ref ow), (1, .long p0), (3, .int (nI j))]) hx hb dX10_append_40 hl (by decide) rfl (fun ls hl => ?_)
          refine lv_iload hx hb dX10_append_42 (lv_at hl 0 rfl) ?_
          refine lv_bipush (v := (32)) hx hb dX10_append_44 (by decide) ?_
          refine lv_icmp_lt (tgt := 56) hx hb dX10_append_46 (by decide) (fun c10 => ?_) (fun c10 => ?_)
          · have e1 : hm_len p0 (nI j) = 0 := if_neg (hm_nokb (by omega) hi (Or.inl ((hm_T_lt (by omega)).mp c10)))
            have e2 : hm_app p0 (nI j) = 0 := if_neg (hm_nokb (by omega) hi (Or.inl ((hm_T_lt (by omega)).mp c10)))
            rw [e1, e2]
            refine lv_iconst (v := 0) hx hb dX10_append_56 (by decide) ?_
            have hP9 := hP.sub (ws' := [(ow, .inr (10, [.ref a10_characters, .int 0, .int i10_kind, .int i10_begin, .int i10_value, .int i10_behind])), (a10_characters, .inl (cCH, 4000, .inl fc0))]) [0, 1] rfl
            have hD9 := hD.sub (ws' := [(ow, .inr (10, [.ref a10_characters, .int 0, .int i10_kind, .int i10_begin, .int i10_value, .int i10_behind])), (a10_characters, .inl (cCH, 4000, .inl fc0))]) [0, 1] (by decide) rfl
            have hK9 := hK.sub (tys' := [(cCH, .char)]) [0] rfl
            exact W.zret (v := 0) hx hb hr rfl (fun t ht hW => ⟨⟨0, (), rfl, rfl, fc0, by rw [ht]; exact hP9, va_K.moved hW.alike hK9, hD9⟩, hS.F ht⟩) hS.2.2 dX10_append_57
          · refine lv_iload hx hb dX10_append_49 (lv_at hl 0 rfl) ?_
            refine lv_bipush (v := (126)) hx hb dX10_append_51 (by decide) ?_
            refine lv_icmp_le (tgt := 58) hx hb dX10_append_53 (by decide) (fun c11 => ?_) (fun c11 => ?_)
            · refine lv_iinc (v := nI (i + 1)) (lv' := [(4, .int (nI (i + 1))), (5, .int (hm_T p0 (nI i))), (0, .ref ow), (1, .long p0), (3, .int (nI j))]) hx hb dX10_append_58 hl (k := 1) rfl (nI_1 i) (by decide) rfl (fun ls hl => ?_)
              refine lv_goto (tgt := 28) hx hb dX10_append_61 (by decide) ?_
              exact ih () _ _ _ ⟨lt_s hall ⟨Nat.not_lt.mp (fun h => c10 ((hm_T_lt (by omega)).mpr h)), (hm_T_le (by omega)).mp c11⟩, hP, hD, hS, lv_sub hl [0, 2, 3, 4] rfl⟩
            · have e1 : hm_len p0 (nI j) = 0 := if_neg (hm_nokb (by omega) hi (Or.inr (Nat.not_le.mp (fun h => c11 ((hm_T_le (by omega)).mpr h)))))
              have e2 : hm_app p0 (nI j) = 0 := if_neg (hm_nokb (by omega) hi (Or.inr (Nat.not_le.mp (fun h => c11 ((hm_T_le (by omega)).mpr h)))))
              rw [e1, e2]
              refine lv_iconst (v := 0) hx hb dX10_append_56 (by decide) ?_
              have hP9 := hP.sub (ws' := [(ow, .inr (10, [.ref a10_characters, .int 0, .int i10_kind, .int i10_begin, .int i10_value, .int i10_behind])), (a10_characters, .inl (cCH, 4000, .inl fc0))]) [0, 1] rfl
              have hD9 := hD.sub (ws' := [(ow, .inr (10, [.ref a10_characters, .int 0, .int i10_kind, .int i10_begin, .int i10_value, .int i10_behind])), (a10_characters, .inl (cCH, 4000, .inl fc0))]) [0, 1] (by decide) rfl
              have hK9 := hK.sub (tys' := [(cCH, .char)]) [0] rfl
              exact W.zret (v := 0) hx hb hr rfl (fun t ht hW => ⟨⟨0, (), rfl, rfl, fc0, by rw [ht]; exact hP9, va_K.moved hW.alike hK9, hD9⟩, hS.F ht⟩) hS.2.2 dX10_append_57
      · exact absurd (by rw [ez3]; exact (Int32.zero_add (nI j)).symm ▸ nI_le (a := j) (b := 4000) (by omega) (by decide)) c4

set_option maxHeartbeats 1000000 in
set_option maxRecDepth 100000 in
/-- type(characters, n) on an empty text -/
theorem c_X11_type (l : Launch) (D : va_G) (sz : Nat) (ox : Nat) (ord : Nat) (a11_printed : Nat) (a11_solver : Nat) (a11_ways : Nat) (a11_told : Nat) (a11_found : Nat) (a11_replies : Nat) (a11_trial : Nat) (a11_results : Nat) (a11_probe : Nat) (a11_sum : Nat) (a11_whole : Nat) (a11_game : Nat) (i5_faultPlace : Int32) (i5_fault : Int32) (ow : Nat) (a5_game : Nat) (a5_isDrawOpen : Nat) (i5_open : Int32) (i5_isInEnd : Int32) (l5_fractionTop : Int64) (l5_fractionBottom : Int64) (a5_endTops : Nat) (a5_endBottoms : Nat) (a5_endDeedsOfA : Nat) (a5_endDeedsOfB : Nat) (a10_characters : Nat) (i10_kind : Int32) (i10_begin : Int32) (i10_value : Int32) (i10_behind : Int32) (cCH : ClassId) (fc0 : Nat → Int32) (p0 : Int64) (p1 : Int32) : Met l yX11_type wsX11_type ({ frames := 2, cells := 0, slots := 0, locals := 47 }) (va_Pc [.ref ox, .long p0, .int p1] (hm_P D [(ox, .inr (11, [.ref ord, .ref a11_printed, .int 0, .ref a11_solver, .ref a11_ways, .ref a11_told, .ref a11_found, .ref a11_replies, .ref a11_trial, .ref a11_results, .ref a11_probe, .ref a11_sum, .ref a11_whole, .ref a11_game, .int 0, .int (-1)])), (ord, .inr (5, [.int i5_faultPlace, .int i5_fault, .ref ow, .ref a5_game, .ref a5_isDrawOpen, .int i5_open, .int i5_isInEnd, .long l5_fractionTop, .long l5_fractionBottom, .ref a5_endTops, .ref a5_endBottoms, .ref a5_endDeedsOfA, .ref a5_endDeedsOfB])), (ow, .inr (10, [.ref a10_characters, .int 0, .int i10_kind, .int i10_begin, .int i10_value, .int i10_behind])), (a10_characters, .inl (cCH, 4000, .inl fc0))] [(cCH, .char)] sz)) (va_Qi (fun (r : Int32) (_ : Unit) => r = (hm_typ p0 p1)) (fun _ t => ∃ (fc : Nat → Int32), hm_B D (va_A [(ox, .inr (11, [.ref ord, .ref a11_printed, .int 0, .ref a11_solver, .ref a11_ways, .ref a11_told, .ref a11_found, .ref a11_replies, .ref a11_trial, .ref a11_results, .ref a11_probe, .ref a11_sum, .ref a11_whole, .ref a11_game, .int 0, .int (-1)])), (ord, .inr (5, [.int i5_faultPlace, .int i5_fault, .ref ow, .ref a5_game, .ref a5_isDrawOpen, .int i5_open, .int i5_isInEnd, .long l5_fractionTop, .long l5_fractionBottom, .ref a5_endTops, .ref a5_endBottoms, .ref a5_endDeedsOfA, .ref a5_endDeedsOfB])), (ow, .inr (10, [.ref a10_characters, .int 0, .int i10_kind, .int i10_begin, .int i10_value, .int i10_behind])), (a10_characters, .inl (cCH, 4000, .inl fc0))] sz) [(ox, .inr (11, [.ref ord, .ref a11_printed, .int 0, .ref a11_solver, .ref a11_ways, .ref a11_told, .ref a11_found, .ref a11_replies, .ref a11_trial, .ref a11_results, .ref a11_probe, .ref a11_sum, .ref a11_whole, .ref a11_game, .int 0, .int (-1)])), (ord, .inr (5, [.int i5_faultPlace, .int i5_fault, .ref ow, .ref a5_game, .ref a5_isDrawOpen, .int i5_open, .int i5_isInEnd, .long l5_fractionTop, .long l5_fractionBottom, .ref a5_endTops, .ref a5_endBottoms, .ref a5_endDeedsOfA, .ref a5_endDeedsOfB])), (ow, .inr (10, [.ref a10_characters, .int (hm_len p0 p1), .int i10_kind, .int i10_begin, .int i10_value, .int i10_behind])), (a10_characters, .inl (cCH, 4000, .inl fc))] [(cCH, .char)] t) (va_A [(ox, .inr (11, [.ref ord, .ref a11_printed, .int 0, .ref a11_solver, .ref a11_ways, .ref a11_told, .ref a11_found, .ref a11_replies, .ref a11_trial, .ref a11_results, .ref a11_probe, .ref a11_sum, .ref a11_whole, .ref a11_game, .int 0, .int (-1)])), (ord, .inr (5, [.int i5_faultPlace, .int i5_fault, .ref ow, .ref a5_game, .ref a5_isDrawOpen, .int i5_open, .int i5_isInEnd, .long l5_fractionTop, .long l5_fractionBottom, .ref a5_endTops, .ref a5_endBottoms, .ref a5_endDeedsOfA, .ref a5_endDeedsOfB])), (ow, .inr (10, [.ref a10_characters, .int 0, .int i10_kind, .int i10_begin, .int i10_value, .int i10_behind])), (a10_characters, .inl (cCH, 4000, .inl fc0))] sz)) 0 0 (va_A [(ox, .inr (11, [.ref ord, .ref a11_printed, .int 0, .ref a11_solver, .ref a11_ways, .ref a11_told, .ref a11_found, .ref a11_replies, .ref a11_trial, .ref a11_results, .ref a11_probe, .ref a11_sum, .ref a11_whole, .ref a11_game, .int 0, .int (-1)])), (ord, .inr (5, [.int i5_faultPlace, .int i5_fault, .ref ow, .ref a5_game, .ref a5_isDrawOpen, .int i5_open, .int i5_isInEnd, .long l5_fractionTop, .long l5_fractionBottom, .ref a5_endTops, .ref a5_endBottoms, .ref a5_endDeedsOfA, .ref a5_endDeedsOfB])), (ow, .inr (10, [.ref a10_characters, .int 0, .int i10_kind, .int i10_begin, .int i10_value, .int i10_behind])), (a10_characters, .inl (cCH, 4000, .inl fc0))] sz) := by
  refine Met.ofW (cc := cX11_type) (maxL := 4) (ret := (some .int)) (by decide) rfl ?_
  intro p e s m args below meth c s₁ B hml hv
  obtain ⟨rfl, hsz, hP, hK, hD0, hE⟩ := hv
  have hx := B.exec
  have hb := B.bytes
  have hr := B.returns
  have hts := atoms_spec (ws := wsX11_type) B.pre
  have hown : s.vm.findClass RX11 = some m.cls := findClass_of_methodNamed B.named
  have hlocks := B.notSynchronized
  subst hsz
  have hD := hD0.self (sz := s.heap.size)
  generalize hAe : va_A [(ox, .inr (11, [.ref ord, .ref a11_printed, .int 0, .ref a11_solver, .ref a11_ways, .ref a11_told, .ref a11_found, .ref a11_replies, .ref a11_trial, .ref a11_results, .ref a11_probe, .ref a11_sum, .ref a11_whole, .ref a11_game, .int 0, .int (-1)])), (ord, .inr (5, [.int i5_faultPlace, .int i5_fault, .ref ow, .ref a5_game, .ref a5_isDrawOpen, .int i5_open, .int i5_isInEnd, .long l5_fractionTop, .long l5_fractionBottom, .ref a5_endTops, .ref a5_endBottoms, .ref a5_endDeedsOfA, .ref a5_endDeedsOfB])), (ow, .inr (10, [.ref a10_characters, .int 0, .int i10_kind, .int i10_begin, .int i10_value, .int i10_behind])), (a10_characters, .inl (cCH, 4000, .inl fc0))] s.heap.size = A at hD ⊢
  have hA : ∀ q : Nat, s.heap.size ≤ q → A q := fun q h => by rw [← hAe]; exact Or.inr h
  have hS : va_S A s.heap s.heap [] := va_S.rf
  have hP : va_P D vwCl [(ox, .inr (11, [.ref ord, .ref a11_printed, .int 0, .ref a11_solver, .ref a11_ways, .ref a11_told, .ref a11_found, .ref a11_replies, .ref a11_trial, .ref a11_results, .ref a11_probe, .ref a11_sum, .ref a11_whole, .ref a11_game, .int 0, .int (-1)])), (ord, .inr (5, [.int i5_faultPlace, .int i5_fault, .ref ow, .ref a5_game, .ref a5_isDrawOpen, .int i5_open, .int i5_isInEnd, .long l5_fractionTop, .long l5_fractionBottom, .ref a5_endTops, .ref a5_endBottoms, .ref a5_endDeedsOfA, .ref a5_endDeedsOfB])), (ow, .inr (10, [.ref a10_characters, .int 0, .int i10_kind, .int i10_begin, .int i10_value, .int i10_behind])), (a10_characters, .inl (cCH, 4000, .inl fc0))] s.heap := hP
  have hl := lv_entry ([.ref ox, .long p0, .int p1]) (n := 4) (Nat.le_of_ble_eq_true rfl)
  rw [lg_entry_eq]
  generalize (lg_sl ([.ref ox, .long p0, .int p1]) ++ List.replicate (4 - (lg_sl ([.ref ox, .long p0, .int p1])).length) Slot.unset).toArray = ls at hl ⊢
  have hl : lv_has ls 4 [(0, .ref ox), (1, .long p0), (3, .int p1)] := hl
  refine lv_aload_n hx hb dX11_type_0 rfl (lv_at hl 0 rfl) ?_
  refine va_get (D := D) (ci := 11) (v := .ref ord) (C := RX11) (T := TX11) (N := 16) hx hb hts (by decide +kernel) hown hK hP 0 rfl rfl 0 (by decide) (hts (.fieldLink RX11 12 "HiddenMoves" "reader" "LHiddenMoves$Reader;") (by decide +kernel)) (fun _ h9 => h9) rfl dX11_type_1 ?_
  refine va_get (D := D) (ci := 5) (v := .ref ow) (C := RX5) (T := TX5) (N := 13) hx hb hts (by decide +kernel) hown hK hP 1 rfl rfl 2 (by decide) (hts (.fieldLink RX11 96 "HiddenMoves$Reader" "words" "LHiddenMoves$Words;") (by decide +kernel)) (fun _ h9 => h9) rfl dX11_type_4 ?_
  refine lv_lload_n hx hb dX11_type_7 rfl (lv_at hl 1 rfl) ?_
  refine lv_iload_n hx hb dX11_type_8 rfl (lv_at hl 2 rfl) ?_
  have hPc := hP.sub (ws' := [(ow, .inr (10, [.ref a10_characters, .int 0, .int i10_kind, .int i10_begin, .int i10_value, .int i10_behind])), (a10_characters, .inl (cCH, 4000, .inl fc0))]) [2, 3] rfl
  have hDc := hD.sub (ws' := [(ow, .inr (10, [.ref a10_characters, .int 0, .int i10_kind, .int i10_begin, .int i10_value, .int i10_behind])), (a10_characters, .inl (cCH, 4000, .inl fc0))]) [2, 3] (by decide) rfl
  have hKc := hK.sub (tys' := [(cCH, .char)]) [0] rfl
  have hFc := va_free (wc := [(ow, .inr (10, [.ref a10_characters, .int 0, .int i10_kind, .int i10_begin, .int i10_value, .int i10_behind])), (a10_characters, .inl (cCH, 4000, .inl fc0))]) hD hS hA [2, 3] rfl
  refine va_calli (va_runV (As := [.long p0, .int p1]) (rest := []) ⟨hx, hb, hml, hown, hts⟩ (c_X10_append l D _ ow a10_characters i10_kind i10_begin i10_value i10_behind cCH fc0 p0 p1) (cwV 2 hts gX11_type_X10_append rfl rfl rfl (by decide +kernel) ⟨Nat.le_of_ble_eq_true rfl, Nat.le_of_ble_eq_true rfl⟩) ⟨hm_blind, va_recv hKc hPc (ci := 10) (q0 := 0) rfl rfl, hm_pre hPc hKc hDc hE⟩ rfl rfl hl.1 rfl (lv_room (Nat.le_of_ble_eq_true rfl)) dX11_type_9 ⟨(Nat.le_of_ble_eq_true rfl), (Nat.le_of_ble_eq_true rfl)⟩) hS (fun q _ h => hFc q h) hFc (fun rv1 u t H1 locs ht hvm hw hB hz1 hk1 hS => ?_)
  obtain ⟨fc2, hP1, hK1, hD1⟩ := hB
  rw [ht] at hP1
  have hK1 := va_K.moved hvm.symm hK1
  obtain ⟨hP, hD⟩ := va_join (wr := [(ox, .inr (11, [.ref ord, .ref a11_printed, .int 0, .ref a11_solver, .ref a11_ways, .ref a11_told, .ref a11_found, .ref a11_replies, .ref a11_trial, .ref a11_results, .ref a11_probe, .ref a11_sum, .ref a11_whole, .ref a11_game, .int 0, .int (-1)])), (ord, .inr (5, [.int i5_faultPlace, .int i5_fault, .ref ow, .ref a5_game, .ref a5_isDrawOpen, .int i5_open, .int i5_isInEnd, .long l5_fractionTop, .long l5_fractionBottom, .ref a5_endTops, .ref a5_endBottoms, .ref a5_endDeedsOfA, .ref a5_endDeedsOfB]))]) (w1 := [(ow, .inr (10, [.ref a10_characters, .int (hm_len p0 p1), .int i10_kind, .int i10_begin, .int i10_value, .int i10_behind])), (a10_characters, .inl (cCH, 4000, .inl fc2))]) hP hD [2, 3] [0, 1] rfl rfl (by decide) (by decide) hk1 hFc hP1 hD1
  have hK := (hK.sub (tys' := []) [] rfl).app hK1
  generalize H1 = H at hP hS ⊢
  have hP : va_P D vwCl [(ox, .inr (11, [.ref ord, .ref a11_printed, .int 0, .ref a11_solver, .ref a11_ways, .ref a11_told, .ref a11_found, .ref a11_replies, .ref a11_trial, .ref a11_results, .ref a11_probe, .ref a11_sum, .ref a11_whole, .ref a11_game, .int 0, .int (-1)])), (ord, .inr (5, [.int i5_faultPlace, .int i5_fault, .ref ow, .ref a5_game, .ref a5_isDrawOpen, .int i5_open, .int i5_isInEnd, .long l5_fractionTop, .long l5_fractionBottom, .ref a5_endTops, .ref a5_endBottoms, .ref a5_endDeedsOfA, .ref a5_endDeedsOfB])), (ow, .inr (10, [.ref a10_characters, .int (hm_len p0 p1), .int i10_kind, .int i10_begin, .int i10_value, .int i10_behind])), (a10_characters, .inl (cCH, 4000, .inl fc2))] H := hP
  have hD : va_D A [(ox, .inr (11, [.ref ord, .ref a11_printed, .int 0, .ref a11_solver, .ref a11_ways, .ref a11_told, .ref a11_found, .ref a11_replies, .ref a11_trial, .ref a11_results, .ref a11_probe, .ref a11_sum, .ref a11_whole, .ref a11_game, .int 0, .int (-1)])), (ord, .inr (5, [.int i5_faultPlace, .int i5_fault, .ref ow, .ref a5_game, .ref a5_isDrawOpen, .int i5_open, .int i5_isInEnd, .long l5_fractionTop, .long l5_fractionBottom, .ref a5_endTops, .ref a5_endBottoms, .ref a5_endDeedsOfA, .ref a5_endDeedsOfB])), (ow, .inr (10, [.ref a10_characters, .int (hm_len p0 p1), .int i10_kind, .int i10_begin, .int i10_value, .int i10_behind])), (a10_characters, .inl (cCH, 4000, .inl fc2))] := hD
  have hK : va_K D vwCl [(cCH, .char)] s := hK
  refine W.widen (k := 0) (n := 0) (by omega) (by omega) ?_
  obtain rfl : rv1 = (hm_app p0 p1) := hw
  by_cases hok : hm_ok p0 p1
  · have e1 : hm_len p0 p1 = p1 := if_pos hok
    have e2 : hm_app p0 p1 = 1 := if_pos hok
    have e3 : hm_typ p0 p1 = p1 := if_pos hok
    rw [e1] at hP hD
    rw [e1, e2, e3]
    refine lv_if_eq (tgt := 28) hx hb dX11_type_12 (by decide) (fun c9 => absurd c9 (by decide)) (fun _ => ?_)
    refine lv_aload_n hx hb dX11_type_15 rfl (lv_at hl 0 rfl) ?_
    refine va_get (D := D) (ci := 11) (v := .ref ord) (C := RX11) (T := TX11) (N := 16) hx hb hts (by decide +kernel) hown hK hP 0 rfl rfl 0 (by decide) (hts (.fieldLink RX11 12 "HiddenMoves" "reader" "LHiddenMoves$Reader;") (by decide +kernel)) (fun _ h9 => h9) rfl dX11_type_16 ?_
    refine va_get (D := D) (ci := 5) (v := .ref ow) (C := RX5) (T := TX5) (N := 13) hx hb hts (by decide +kernel) hown hK hP 1 rfl rfl 2 (by decide) (hts (.fieldLink RX11 96 "HiddenMoves$Reader" "words" "LHiddenMoves$Words;") (by decide +kernel)) (fun _ h9 => h9) rfl dX11_type_19 ?_
    refine va_get (D := D) (ci := 10) (v := .int p1) (C := RX10) (T := TX10) (N := 6) hx hb hts (by decide +kernel) hown hK hP 2 rfl rfl 1 (by decide) (hts (.fieldLink RX11 106 "HiddenMoves$Words" "length" "I") (by decide +kernel)) (fun _ h9 => h9) rfl dX11_type_22 ?_
    refine lv_goto (tgt := 29) hx hb dX11_type_25 (by decide) ?_
    have hP9 := hP.sub (ws' := [(ox, .inr (11, [.ref ord, .ref a11_printed, .int 0, .ref a11_solver, .ref a11_ways, .ref a11_told, .ref a11_found, .ref a11_replies, .ref a11_trial, .ref a11_results, .ref a11_probe, .ref a11_sum, .ref a11_whole, .ref a11_game, .int 0, .int (-1)])), (ord, .inr (5, [.int i5_faultPlace, .int i5_fault, .ref ow, .ref a5_game, .ref a5_isDrawOpen, .int i5_open, .int i5_isInEnd, .long l5_fractionTop, .long l5_fractionBottom, .ref a5_endTops, .ref a5_endBottoms, .ref a5_endDeedsOfA, .ref a5_endDeedsOfB])), (ow, .inr (10, [.ref a10_characters, .int p1, .int i10_kind, .int i10_begin, .int i10_value, .int i10_behind])), (a10_characters, .inl (cCH, 4000, .inl fc2))]) [0, 1, 2, 3] rfl
    have hD9 := hD.sub (ws' := [(ox, .inr (11, [.ref ord, .ref a11_printed, .int 0, .ref a11_solver, .ref a11_ways, .ref a11_told, .ref a11_found, .ref a11_replies, .ref a11_trial, .ref a11_results, .ref a11_probe, .ref a11_sum, .ref a11_whole, .ref a11_game, .int 0, .int (-1)])), (ord, .inr (5, [.int i5_faultPlace, .int i5_fault, .ref ow, .ref a5_game, .ref a5_isDrawOpen, .int i5_open, .int i5_isInEnd, .long l5_fractionTop, .long l5_fractionBottom, .ref a5_endTops, .ref a5_endBottoms, .ref a5_endDeedsOfA, .ref a5_endDeedsOfB])), (ow, .inr (10, [.ref a10_characters, .int p1, .int i10_kind, .int i10_begin, .int i10_value, .int i10_behind])), (a10_characters, .inl (cCH, 4000, .inl fc2))]) [0, 1, 2, 3] (by decide) rfl
    have hK9 := hK.sub (tys' := [(cCH, .char)]) [0] rfl
    exact W.iret (v := p1) hx hb hr (fun t ht hW => ⟨⟨p1, (), rfl, rfl, fc2, by rw [ht]; exact hP9, va_K.moved hW.alike hK9, hD9⟩, hS.F ht⟩) hS.2.2 dX11_type_29
  · have e1 : hm_len p0 p1 = 0 := if_neg hok
    have e2 : hm_app p0 p1 = 0 := if_neg hok
    have e3 : hm_typ p0 p1 = (-1) := if_neg hok
    rw [e1] at hP hD
    rw [e1, e2, e3]
    refine lv_if_eq (tgt := 28) hx hb dX11_type_12 (by decide) (fun _ => ?_) (fun c9 => absurd (by decide) c9)
    refine lv_iconst (v := (-1)) hx hb dX11_type_28 (by decide) ?_
    have hP9 := hP.sub (ws' := [(ox, .inr (11, [.ref ord, .ref a11_printed, .int 0, .ref a11_solver, .ref a11_ways, .ref a11_told, .ref a11_found, .ref a11_replies, .ref a11_trial, .ref a11_results, .ref a11_probe, .ref a11_sum, .ref a11_whole, .ref a11_game, .int 0, .int (-1)])), (ord, .inr (5, [.int i5_faultPlace, .int i5_fault, .ref ow, .ref a5_game, .ref a5_isDrawOpen, .int i5_open, .int i5_isInEnd, .long l5_fractionTop, .long l5_fractionBottom, .ref a5_endTops, .ref a5_endBottoms, .ref a5_endDeedsOfA, .ref a5_endDeedsOfB])), (ow, .inr (10, [.ref a10_characters, .int 0, .int i10_kind, .int i10_begin, .int i10_value, .int i10_behind])), (a10_characters, .inl (cCH, 4000, .inl fc2))]) [0, 1, 2, 3] rfl
    have hD9 := hD.sub (ws' := [(ox, .inr (11, [.ref ord, .ref a11_printed, .int 0, .ref a11_solver, .ref a11_ways, .ref a11_told, .ref a11_found, .ref a11_replies, .ref a11_trial, .ref a11_results, .ref a11_probe, .ref a11_sum, .ref a11_whole, .ref a11_game, .int 0, .int (-1)])), (ord, .inr (5, [.int i5_faultPlace, .int i5_fault, .ref ow, .ref a5_game, .ref a5_isDrawOpen, .int i5_open, .int i5_isInEnd, .long l5_fractionTop, .long l5_fractionBottom, .ref a5_endTops, .ref a5_endBottoms, .ref a5_endDeedsOfA, .ref a5_endDeedsOfB])), (ow, .inr (10, [.ref a10_characters, .int 0, .int i10_kind, .int i10_begin, .int i10_value, .int i10_behind])), (a10_characters, .inl (cCH, 4000, .inl fc2))]) [0, 1, 2, 3] (by decide) rfl
    have hK9 := hK.sub (tys' := [(cCH, .char)]) [0] rfl
    exact W.iret (v := (-1)) hx hb hr (fun t ht hW => ⟨⟨(-1), (), rfl, rfl, fc2, by rw [ht]; exact hP9, va_K.moved hW.alike hK9, hD9⟩, hS.F ht⟩) hS.2.2 dX11_type_29
