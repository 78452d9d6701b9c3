set_option maxHeartbeats 1000000 in
set_option maxRecDepth 100000 in
/-- advance() of an empty text -/
theorem c_X10_advance (l : Launch) (D : va_G) (sz : Nat) (ow : Nat) (a10_characters : Nat) (i10_kind : Int32) (i10_begin : Int32) (i10_value : Int32) : Met l yX10_advance wsX10_advance ({ frames := 0, cells := 0, slots := 0, locals := 0 }) (va_Pc [.ref ow] (hm_P D [(ow, .inr (10, [.ref a10_characters, .int 0, .int i10_kind, .int i10_begin, .int i10_value, .int 0]))] [] sz)) (va_Qv (fun _ : Unit => True) (fun _ t => hm_B D (va_A [(ow, .inr (10, [.ref a10_characters, .int 0, .int i10_kind, .int i10_begin, .int i10_value, .int 0]))] sz) [(ow, .inr (10, [.ref a10_characters, .int 0, .int 0, .int 0, .int i10_value, .int 0]))] [] t) (va_A [(ow, .inr (10, [.ref a10_characters, .int 0, .int i10_kind, .int i10_begin, .int i10_value, .int 0]))] sz)) 0 0 (va_A [(ow, .inr (10, [.ref a10_characters, .int 0, .int i10_kind, .int i10_begin, .int i10_value, .int 0]))] sz) := by
  refine Met.ofW (cc := cX10_advance) (maxL := 1) (ret := none) (by decide) rfl ?_
  intro p e s m args below meth c s₁ B hml hv
  obtain ⟨rfl, hsz, hP, hK, hD0, hE⟩ := hv
  have hx := B.exec
  have hb := B.bytes
  have hr := B.returns
  have hts := atoms_spec (ws := wsX10_advance) B.pre
  have hown : s.vm.findClass RX10 = some m.cls := findClass_of_methodNamed B.named
  have hlocks := B.notSynchronized
  subst hsz
  have hD := hD0.self (sz := s.heap.size)
  generalize hAe : va_A [(ow, .inr (10, [.ref a10_characters, .int 0, .int i10_kind, .int i10_begin, .int i10_value, .int 0]))] s.heap.size = A at hD ⊢
  have hA : ∀ q : Nat, s.heap.size ≤ q → A q := fun q h => by rw [← hAe]; exact Or.inr h
  have hS : va_S A s.heap s.heap [] := va_S.rf
  have hP : va_P D vwCl [(ow, .inr (10, [.ref a10_characters, .int 0, .int i10_kind, .int i10_begin, .int i10_value, .int 0]))] s.heap := hP
  have hl := lv_entry ([.ref ow]) (n := 1) (Nat.le_of_ble_eq_true rfl)
  rw [lg_entry_eq]
  generalize (lg_sl ([.ref ow]) ++ List.replicate (1 - (lg_sl ([.ref ow])).length) Slot.unset).toArray = ls at hl ⊢
  have hl : lv_has ls 1 [(0, .ref ow)] := hl
  refine lv_aload_n hx hb dX10_advance_0 rfl (lv_at hl 0 rfl) ?_
  refine va_get (D := D) (ci := 10) (v := .int 0) (C := RX10) (T := TX10) (N := 6) hx hb hts (by decide +kernel) hown hK hP 0 rfl rfl 5 (by decide) (hts (.fieldLink RX10 28 "HiddenMoves$Words" "behind" "I") (by decide +kernel)) (fun _ h9 => h9) rfl dX10_advance_1 ?_
  refine lv_aload_n hx hb dX10_advance_4 rfl (lv_at hl 0 rfl) ?_
  refine va_get (D := D) (ci := 10) (v := .int 0) (C := RX10) (T := TX10) (N := 6) hx hb hts (by decide +kernel) hown hK hP 0 rfl rfl 1 (by decide) (hts (.fieldLink RX10 15 "HiddenMoves$Words" "length" "I") (by decide +kernel)) (fun _ h9 => h9) rfl dX10_advance_5 ?_
  refine lv_icmp_ge (tgt := 38) hx hb dX10_advance_8 (by decide) (fun _ => ?_) (fun c9 => absurd (by decide) c9)
  refine lv_aload_n hx hb dX10_advance_38 rfl (lv_at hl 0 rfl) ?_
  refine lv_aload_n hx hb dX10_advance_39 rfl (lv_at hl 0 rfl) ?_
  refine va_get (D := D) (ci := 10) (v := .int 0) (C := RX10) (T := TX10) (N := 6) hx hb hts (by decide +kernel) hown hK hP 0 rfl rfl 5 (by decide) (hts (.fieldLink RX10 28 "HiddenMoves$Words" "behind" "I") (by decide +kernel)) (fun _ h9 => h9) rfl dX10_advance_40 ?_
  refine va_put (D := D) (ci := 10) (v := .int 0) (ty := .int) (C := RX10) (T := TX10) (N := 6) hx hb hts (by decide +kernel) tyX10 tyX10_ok nmX10 hown hK hP hD hS 0 rfl rfl 3 (by decide) (hts (.fieldLink RX10 22 "HiddenMoves$Words" "begin" "I") (by decide +kernel)) (fun _ h9 => h9) rfl (by decide +kernel) rfl rfl (Nat.le_of_ble_eq_true rfl) dX10_advance_43 (fun H locs hP hD hS => ?_)
  have hP : va_P D vwCl [(ow, .inr (10, [.ref a10_characters, .int 0, .int i10_kind, .int 0, .int i10_value, .int 0]))] H := hP
  have hD : va_D A [(ow, .inr (10, [.ref a10_characters, .int 0, .int i10_kind, .int 0, .int i10_value, .int 0]))] := hD
  refine lv_aload_n hx hb dX10_advance_46 rfl (lv_at hl 0 rfl) ?_
  refine va_get (D := D) (ci := 10) (v := .int 0) (C := RX10) (T := TX10) (N := 6) hx hb hts (by decide +kernel) hown hK hP 0 rfl rfl 5 (by decide) (hts (.fieldLink RX10 28 "HiddenMoves$Words" "behind" "I") (by decide +kernel)) (fun _ h9 => h9) rfl dX10_advance_47 ?_
  refine lv_aload_n hx hb dX10_advance_50 rfl (lv_at hl 0 rfl) ?_
  refine va_get (D := D) (ci := 10) (v := .int 0) (C := RX10) (T := TX10) (N := 6) hx hb hts (by decide +kernel) hown hK hP 0 rfl rfl 1 (by decide) (hts (.fieldLink RX10 15 "HiddenMoves$Words" "length" "I") (by decide +kernel)) (fun _ h9 => h9) rfl dX10_advance_51 ?_
  refine lv_icmp_lt (tgt := 63) hx hb dX10_advance_54 (by decide) (fun c9 => absurd c9 (by decide)) (fun _ => ?_)
  refine lv_aload_n hx hb dX10_advance_57 rfl (lv_at hl 0 rfl) ?_
  refine lv_iconst (v := 0) hx hb dX10_advance_58 (by decide) ?_
  refine va_put (D := D) (ci := 10) (v := .int 0) (ty := .int) (C := RX10) (T := TX10) (N := 6) hx hb hts (by decide +kernel) tyX10 tyX10_ok nmX10 hown hK hP hD hS 0 rfl rfl 2 (by decide) (hts (.fieldLink RX10 19 "HiddenMoves$Words" "kind" "I") (by decide +kernel)) (fun _ h9 => h9) rfl (by decide +kernel) rfl rfl (Nat.le_of_ble_eq_true rfl) dX10_advance_59 (fun H locs hP hD hS => ?_)
  have hP : va_P D vwCl [(ow, .inr (10, [.ref a10_characters, .int 0, .int 0, .int 0, .int i10_value, .int 0]))] H := hP
  have hD : va_D A [(ow, .inr (10, [.ref a10_characters, .int 0, .int 0, .int 0, .int i10_value, .int 0]))] := hD
  have hP9 := hP.sub (ws' := [(ow, .inr (10, [.ref a10_characters, .int 0, .int 0, .int 0, .int i10_value, .int 0]))]) [0] rfl
  have hD9 := hD.sub (ws' := [(ow, .inr (10, [.ref a10_characters, .int 0, .int 0, .int 0, .int i10_value, .int 0]))]) [0] (by decide) rfl
  have hK9 := hK.sub (tys' := []) [] rfl
  exact W.vret hx hb hr (fun t ht hW => ⟨⟨(), rfl, trivial, by rw [ht]; exact hP9, va_K.moved hW.alike hK9, hD9⟩, hS.F ht⟩) hS.2.2 dX10_advance_62

set_option maxHeartbeats 1000000 in
set_option maxRecDepth 100000 in
/-- goToStart() of an empty text -/
theorem c_X10_goToStart (l : Launch) (D : va_G) (sz : Nat) (ow : Nat) (a10_characters : Nat) (i10_kind : Int32) (i10_begin : Int32) (i10_value : Int32) (i10_behind : Int32) : Met l yX10_goToStart wsX10_goToStart ({ frames := 1, cells := 0, slots := 0, locals := 20 }) (va_Pc [.ref ow] (hm_P D [(ow, .inr (10, [.ref a10_characters, .int 0, .int i10_kind, .int i10_begin, .int i10_value, .int i10_behind]))] [] sz)) (va_Qv (fun _ : Unit => True) (fun _ t => hm_B D (va_A [(ow, .inr (10, [.ref a10_characters, .int 0, .int i10_kind, .int i10_begin, .int i10_value, .int i10_behind]))] sz) [(ow, .inr (10, [.ref a10_characters, .int 0, .int 0, .int 0, .int i10_value, .int 0]))] [] t) (va_A [(ow, .inr (10, [.ref a10_characters, .int 0, .int i10_kind, .int i10_begin, .int i10_value, .int i10_behind]))] sz)) 0 0 (va_A [(ow, .inr (10, [.ref a10_characters, .int 0, .int i10_kind, .int i10_begin, .int i10_value, .int i10_behind]))] sz) := by
  refine Met.ofW (cc := cX10_goToStart) (maxL := 1) (ret := none) (by decide) rfl ?_
  intro p e s m args below meth c s₁ B hml hv
  obtain ⟨rfl, hsz, hP, hK, hD0, hE⟩ := hv
  have hx := B.exec
  have hb := B.bytes
  have hr := B.returns
  have hts := atoms_spec (ws := wsX10_goToStart) B.pre
  have hown : s.vm.findClass RX10 = some m.cls := findClass_of_methodNamed B.named
  have hlocks := B.notSynchronized
  subst hsz
  have hD := hD0.self (sz := s.heap.size)
  generalize hAe : va_A [(ow, .inr (10, [.ref a10_characters, .int 0, .int i10_kind, .int i10_begin, .int i10_value, .int i10_behind]))] s.heap.size = A at hD ⊢
  have hA : ∀ q : Nat, s.heap.size ≤ q → A q := fun q h => by rw [← hAe]; exact Or.inr h
  have hS : va_S A s.heap s.heap [] := va_S.rf
  have hP : va_P D vwCl [(ow, .inr (10, [.ref a10_characters, .int 0, .int i10_kind, .int i10_begin, .int i10_value, .int i10_behind]))] s.heap := hP
  have hl := lv_entry ([.ref ow]) (n := 1) (Nat.le_of_ble_eq_true rfl)
  rw [lg_entry_eq]
  generalize (lg_sl ([.ref ow]) ++ List.replicate (1 - (lg_sl ([.ref ow])).length) Slot.unset).toArray = ls at hl ⊢
  have hl : lv_has ls 1 [(0, .ref ow)] := hl
  refine lv_aload_n hx hb dX10_goToStart_0 rfl (lv_at hl 0 rfl) ?_
  refine lv_iconst (v := 0) hx hb dX10_goToStart_1 (by decide) ?_
  refine va_put (D := D) (ci := 10) (v := .int 0) (ty := .int) (C := RX10) (T := TX10) (N := 6) hx hb hts (by decide +kernel) tyX10 tyX10_ok nmX10 hown hK hP hD hS 0 rfl rfl 5 (by decide) (hts (.fieldLink RX10 28 "HiddenMoves$Words" "behind" "I") (by decide +kernel)) (fun _ h9 => h9) rfl (by decide +kernel) rfl rfl (Nat.le_of_ble_eq_true rfl) dX10_goToStart_2 (fun H locs hP hD hS => ?_)
  have hP : va_P D vwCl [(ow, .inr (10, [.ref a10_characters, .int 0, .int i10_kind, .int i10_begin, .int i10_value, .int 0]))] H := hP
  have hD : va_D A [(ow, .inr (10, [.ref a10_characters, .int 0, .int i10_kind, .int i10_begin, .int i10_value, .int 0]))] := hD
  refine lv_aload_n hx hb dX10_goToStart_5 rfl (lv_at hl 0 rfl) ?_
  have hPc := hP.sub (ws' := [(ow, .inr (10, [.ref a10_characters, .int 0, .int i10_kind, .int i10_begin, .int i10_value, .int 0]))]) [0] rfl
  have hDc := hD.sub (ws' := [(ow, .inr (10, [.ref a10_characters, .int 0, .int i10_kind, .int i10_begin, .int i10_value, .int 0]))]) [0] (by decide) rfl
  have hKc := hK.sub (tys' := []) [] rfl
  have hFc := va_free (wc := [(ow, .inr (10, [.ref a10_characters, .int 0, .int i10_kind, .int i10_begin, .int i10_value, .int 0]))]) hD hS hA [0] rfl
  refine va_callv (va_runV (As := []) (rest := []) ⟨hx, hb, hml, hown, hts⟩ (c_X10_advance l D _ ow a10_characters i10_kind i10_begin i10_value) (cwV 0 hts gX10_goToStart_X10_advance rfl rfl rfl (by decide +kernel) ⟨Nat.le_of_ble_eq_true rfl, Nat.le_of_ble_eq_true rfl⟩) ⟨hm_blind, va_recv hKc hPc (ci := 10) (q0 := 0) rfl rfl, hm_pre hPc hKc hDc hE⟩ rfl rfl hl.1 rfl (lv_room (Nat.le_of_ble_eq_true rfl)) dX10_goToStart_6 ⟨(Nat.le_of_ble_eq_true rfl), (Nat.le_of_ble_eq_true rfl)⟩) hS (fun q _ h => hFc q h) hFc (fun u t H1 locs ht hvm hw hB hz1 hk1 hS => ?_)
  obtain ⟨hP1, hK1, hD1⟩ := hB
  rw [ht] at hP1
  have hK1 := va_K.moved hvm.symm hK1
  obtain ⟨hP, hD⟩ := va_join (wr := []) (w1 := [(ow, .inr (10, [.ref a10_characters, .int 0, .int 0, .int 0, .int i10_value, .int 0]))]) hP hD [0] [] rfl rfl (by decide) (by decide) hk1 hFc hP1 hD1
  have hK := (hK.sub (tys' := []) [] rfl).app hK1
  generalize H1 = H at hP hS ⊢
  have hP : va_P D vwCl [(ow, .inr (10, [.ref a10_characters, .int 0, .int 0, .int 0, .int i10_value, .int 0]))] H := hP
  have hD : va_D A [(ow, .inr (10, [.ref a10_characters, .int 0, .int 0, .int 0, .int i10_value, .int 0]))] := hD
  have hK : va_K D vwCl [] s := hK
  refine W.widen (k := 0) (n := 0) (by omega) (by omega) ?_
  have hP9 := hP.sub (ws' := [(ow, .inr (10, [.ref a10_characters, .int 0, .int 0, .int 0, .int i10_value, .int 0]))]) [0] rfl
  have hD9 := hD.sub (ws' := [(ow, .inr (10, [.ref a10_characters, .int 0, .int 0, .int 0, .int i10_value, .int 0]))]) [0] (by decide) rfl
  have hK9 := hK.sub (tys' := []) [] rfl
  exact W.vret hx hb hr (fun t ht hW => ⟨⟨(), rfl, trivial, by rw [ht]; exact hP9, va_K.moved hW.alike hK9, hD9⟩, hS.F ht⟩) hS.2.2 dX10_goToStart_9

set_option maxHeartbeats 1000000 in
set_option maxRecDepth 100000 in
/-- refuse(why, where) -/
theorem c_X5_refuse (l : Launch) (D : va_G) (sz : Nat) (ord : Nat) (i5_faultPlace : Int32) (i5_fault : Int32) (ow : Nat) (a5_game : Nat) (a5_isDrawOpen : Nat) (i5_open : Int32) (i5_isInEnd : Int32) (l5_fractionTop : Int64) (l5_fractionBottom : Int64) (a5_endTops : Nat) (a5_endBottoms : Nat) (a5_endDeedsOfA : Nat) (a5_endDeedsOfB : Nat) (p0 : Int32) (p1 : Int32) : Met l yX5_refuse wsX5_refuse ({ frames := 0, cells := 0, slots := 0, locals := 0 }) (va_Pc [.ref ord, .int p0, .int p1] (hm_P D [(ord, .inr (5, [.int i5_faultPlace, .int i5_fault, .ref ow, .ref a5_game, .ref a5_isDrawOpen, .int i5_open, .int i5_isInEnd, .long l5_fractionTop, .long l5_fractionBottom, .ref a5_endTops, .ref a5_endBottoms, .ref a5_endDeedsOfA, .ref a5_endDeedsOfB]))] [] sz)) (va_Qi (fun (r : Int32) (_ : Unit) => r = 0) (fun _ t => hm_B D (va_A [(ord, .inr (5, [.int i5_faultPlace, .int i5_fault, .ref ow, .ref a5_game, .ref a5_isDrawOpen, .int i5_open, .int i5_isInEnd, .long l5_fractionTop, .long l5_fractionBottom, .ref a5_endTops, .ref a5_endBottoms, .ref a5_endDeedsOfA, .ref a5_endDeedsOfB]))] sz) [(ord, .inr (5, [.int p1, .int p0, .ref ow, .ref a5_game, .ref a5_isDrawOpen, .int i5_open, .int i5_isInEnd, .long l5_fractionTop, .long l5_fractionBottom, .ref a5_endTops, .ref a5_endBottoms, .ref a5_endDeedsOfA, .ref a5_endDeedsOfB]))] [] t) (va_A [(ord, .inr (5, [.int i5_faultPlace, .int i5_fault, .ref ow, .ref a5_game, .ref a5_isDrawOpen, .int i5_open, .int i5_isInEnd, .long l5_fractionTop, .long l5_fractionBottom, .ref a5_endTops, .ref a5_endBottoms, .ref a5_endDeedsOfA, .ref a5_endDeedsOfB]))] sz)) 0 0 (va_A [(ord, .inr (5, [.int i5_faultPlace, .int i5_fault, .ref ow, .ref a5_game, .ref a5_isDrawOpen, .int i5_open, .int i5_isInEnd, .long l5_fractionTop, .long l5_fractionBottom, .ref a5_endTops, .ref a5_endBottoms, .ref a5_endDeedsOfA, .ref a5_endDeedsOfB]))] sz) := by
  refine Met.ofW (cc := cX5_refuse) (maxL := 3) (ret := (some .boolean)) (by decide) rfl ?_
  intro p e s m args below meth c s₁ B hml hv
  obtain ⟨rfl, hsz, hP, hK, hD0, hE⟩ := hv
  have hx := B.exec
  have hb := B.bytes
  have hr := B.returns
  have hts := atoms_spec (ws := wsX5_refuse) B.pre
  have hown : s.vm.findClass RX5 = some m.cls := findClass_of_methodNamed B.named
  have hlocks := B.notSynchronized
  subst hsz
  have hD := hD0.self (sz := s.heap.size)
  generalize hAe : va_A [(ord, .inr (5, [.int i5_faultPlace, .int i5_fault, .ref ow, .ref a5_game, .ref a5_isDrawOpen, .int i5_open, .int i5_isInEnd, .long l5_fractionTop, .long l5_fractionBottom, .ref a5_endTops, .ref a5_endBottoms, .ref a5_endDeedsOfA, .ref a5_endDeedsOfB]))] s.heap.size = A at hD ⊢
  have hA : ∀ q : Nat, s.heap.size ≤ q → A q := fun q h => by rw [← hAe]; exact Or.inr h
  have hS : va_S A s.heap s.heap [] := va_S.rf
  have hP : va_P D vwCl [(ord, .inr (5, [.int i5_faultPlace, .int i5_fault, .ref ow, .ref a5_game, .ref a5_isDrawOpen, .int i5_open, .int i5_isInEnd, .long l5_fractionTop, .long l5_fractionBottom, .ref a5_endTops, .ref a5_endBottoms, .ref a5_endDeedsOfA, .ref a5_endDeedsOfB]))] s.heap := hP
  have hl := lv_entry ([.ref ord, .int p0, .int p1]) (n := 3) (Nat.le_of_ble_eq_true rfl)
  rw [lg_entry_eq]
  generalize (lg_sl ([.ref ord, .int p0, .int p1]) ++ List.replicate (3 - (lg_sl ([.ref ord, .int p0, .int p1])).length) Slot.unset).toArray = ls at hl ⊢
  have hl : lv_has ls 3 [(0, .ref ord), (1, .int p0), (2, .int p1)] := hl
  refine lv_aload_n hx hb dX5_refuse_0 rfl (lv_at hl 0 rfl) ?_
  refine lv_iload_n hx hb dX5_refuse_1 rfl (lv_at hl 1 rfl) ?_
  refine va_put (D := D) (ci := 5) (v := .int p0) (ty := .int) (C := RX5) (T := TX5) (N := 13) hx hb hts (by decide +kernel) tyX5 tyX5_ok nmX5 hown hK hP hD hS 0 rfl rfl 1 (by decide) (hts (.fieldLink RX5 15 "HiddenMoves$Reader" "fault" "I") (by decide +kernel)) (fun _ h9 => h9) rfl (by decide +kernel) rfl rfl (Nat.le_of_ble_eq_true rfl) dX5_refuse_2 (fun H locs hP hD hS => ?_)
  have hP : va_P D vwCl [(ord, .inr (5, [.int i5_faultPlace, .int p0, .ref ow, .ref a5_game, .ref a5_isDrawOpen, .int i5_open, .int i5_isInEnd, .long l5_fractionTop, .long l5_fractionBottom, .ref a5_endTops, .ref a5_endBottoms, .ref a5_endDeedsOfA, .ref a5_endDeedsOfB]))] H := hP
  have hD : va_D A [(ord, .inr (5, [.int i5_faultPlace, .int p0, .ref ow, .ref a5_game, .ref a5_isDrawOpen, .int i5_open, .int i5_isInEnd, .long l5_fractionTop, .long l5_fractionBottom, .ref a5_endTops, .ref a5_endBottoms, .ref a5_endDeedsOfA, .ref a5_endDeedsOfB]))] := hD
  refine lv_aload_n hx hb dX5_refuse_5 rfl (lv_at hl 0 rfl) ?_
  refine lv_iload_n hx hb dX5_refuse_6 rfl (lv_at hl 2 rfl) ?_
  refine va_put (D := D) (ci := 5) (v := .int p1) (ty := .int) (C := RX5) (T := TX5) (N := 13) hx hb hts (by decide +kernel) tyX5 tyX5_ok nmX5 hown hK hP hD hS 0 rfl rfl 0 (by decide) (hts (.fieldLink RX5 9 "HiddenMoves$Reader" "faultPlace" "I") (by decide +kernel)) (fun _ h9 => h9) rfl (by decide +kernel) rfl rfl (Nat.le_of_ble_eq_true rfl) dX5_refuse_7 (fun H locs hP hD hS => ?_)
  have hP : va_P D vwCl [(ord, .inr (5, [.int p1, .int p0, .ref ow, .ref a5_game, .ref a5_isDrawOpen, .int i5_open, .int i5_isInEnd, .long l5_fractionTop, .long l5_fractionBottom, .ref a5_endTops, .ref a5_endBottoms, .ref a5_endDeedsOfA, .ref a5_endDeedsOfB]))] H := hP
  have hD : va_D A [(ord, .inr (5, [.int p1, .int p0, .ref ow, .ref a5_game, .ref a5_isDrawOpen, .int i5_open, .int i5_isInEnd, .long l5_fractionTop, .long l5_fractionBottom, .ref a5_endTops, .ref a5_endBottoms, .ref a5_endDeedsOfA, .ref a5_endDeedsOfB]))] := hD
  refine lv_iconst (v := 0) hx hb dX5_refuse_10 (by decide) ?_
  have hP9 := hP.sub (ws' := [(ord, .inr (5, [.int p1, .int p0, .ref ow, .ref a5_game, .ref a5_isDrawOpen, .int i5_open, .int i5_isInEnd, .long l5_fractionTop, .long l5_fractionBottom, .ref a5_endTops, .ref a5_endBottoms, .ref a5_endDeedsOfA, .ref a5_endDeedsOfB]))]) [0] rfl
  have hD9 := hD.sub (ws' := [(ord, .inr (5, [.int p1, .int p0, .ref ow, .ref a5_game, .ref a5_isDrawOpen, .int i5_open, .int i5_isInEnd, .long l5_fractionTop, .long l5_fractionBottom, .ref a5_endTops, .ref a5_endBottoms, .ref a5_endDeedsOfA, .ref a5_endDeedsOfB]))]) [0] (by decide) rfl
  have hK9 := hK.sub (tys' := []) [] rfl
  exact W.zret (v := 0) hx hb hr rfl (fun t ht hW => ⟨⟨0, (), rfl, rfl, by rw [ht]; exact hP9, va_K.moved hW.alike hK9, hD9⟩, hS.F ht⟩) hS.2.2 dX5_refuse_11

set_option maxHeartbeats 1000000 in
set_option maxRecDepth 100000 in
/-- isOne() of an empty text -/
theorem c_X5_isOne (l : Launch) (D : va_G) (sz : Nat) (ord : Nat) (i5_faultPlace : Int32) (i5_fault : Int32) (ow : Nat) (a5_game : Nat) (a5_isDrawOpen : Nat) (i5_open : Int32) (i5_isInEnd : Int32) (l5_fractionTop : Int64) (l5_fractionBottom : Int64) (a5_endTops : Nat) (a5_endBottoms : Nat) (a5_endDeedsOfA : Nat) (a5_endDeedsOfB : Nat) (a10_characters : Nat) (i10_length : Int32) (i10_begin : Int32) (i10_value : Int32) (i10_behind : Int32) : Met l yX5_isOne wsX5_isOne ({ frames := 0, cells := 0, slots := 0, locals := 0 }) (va_Pc [.ref ord] (hm_P D [(ord, .inr (5, [.int i5_faultPlace, .int i5_fault, .ref ow, .ref a5_game, .ref a5_isDrawOpen, .int i5_open, .int i5_isInEnd, .long l5_fractionTop, .long l5_fractionBottom, .ref a5_endTops, .ref a5_endBottoms, .ref a5_endDeedsOfA, .ref a5_endDeedsOfB])), (ow, .inr (10, [.ref a10_characters, .int i10_length, .int 0, .int i10_begin, .int i10_value, .int i10_behind]))] [] sz)) (va_Qi (fun (r : Int32) (_ : Unit) => r = 0) (fun _ t => hm_B D (va_A [(ord, .inr (5, [.int i5_faultPlace, .int i5_fault, .ref ow, .ref a5_game, .ref a5_isDrawOpen, .int i5_open, .int i5_isInEnd, .long l5_fractionTop, .long l5_fractionBottom, .ref a5_endTops, .ref a5_endBottoms, .ref a5_endDeedsOfA, .ref a5_endDeedsOfB])), (ow, .inr (10, [.ref a10_characters, .int i10_length, .int 0, .int i10_begin, .int i10_value, .int i10_behind]))] sz) [(ord, .inr (5, [.int i5_faultPlace, .int i5_fault, .ref ow, .ref a5_game, .ref a5_isDrawOpen, .int 0, .int 0, .long l5_fractionTop, .long l5_fractionBottom, .ref a5_endTops, .ref a5_endBottoms, .ref a5_endDeedsOfA, .ref a5_endDeedsOfB])), (ow, .inr (10, [.ref a10_characters, .int i10_length, .int 0, .int i10_begin, .int i10_value, .int i10_behind]))] [] t) (va_A [(ord, .inr (5, [.int i5_faultPlace, .int i5_fault, .ref ow, .ref a5_game, .ref a5_isDrawOpen, .int i5_open, .int i5_isInEnd, .long l5_fractionTop, .long l5_fractionBottom, .ref a5_endTops, .ref a5_endBottoms, .ref a5_endDeedsOfA, .ref a5_endDeedsOfB])), (ow, .inr (10, [.ref a10_characters, .int i10_length, .int 0, .int i10_begin, .int i10_value, .int i10_behind]))] sz)) 0 0 (va_A [(ord, .inr (5, [.int i5_faultPlace, .int i5_fault, .ref ow, .ref a5_game, .ref a5_isDrawOpen, .int i5_open, .int i5_isInEnd, .long l5_fractionTop, .long l5_fractionBottom, .ref a5_endTops, .ref a5_endBottoms, .ref a5_endDeedsOfA, .ref a5_endDeedsOfB])), (ow, .inr (10, [.ref a10_characters, .int i10_length, .int 0, .int i10_begin, .int i10_value, .int i10_behind]))] sz) := by
  refine Met.ofW (cc := cX5_isOne) (maxL := 3) (ret := (some .boolean)) (by decide) rfl ?_
  intro p e s m args below meth c s₁ B hml hv
  obtain ⟨rfl, hsz, hP, hK, hD0, hE⟩ := hv
  have hx := B.exec
  have hb := B.bytes
  have hr := B.returns
  have hts := atoms_spec (ws := wsX5_isOne) B.pre
  have hown : s.vm.findClass RX5 = some m.cls := findClass_of_methodNamed B.named
  have hlocks := B.notSynchronized
  subst hsz
  have hD := hD0.self (sz := s.heap.size)
  generalize hAe : va_A [(ord, .inr (5, [.int i5_faultPlace, .int i5_fault, .ref ow, .ref a5_game, .ref a5_isDrawOpen, .int i5_open, .int i5_isInEnd, .long l5_fractionTop, .long l5_fractionBottom, .ref a5_endTops, .ref a5_endBottoms, .ref a5_endDeedsOfA, .ref a5_endDeedsOfB])), (ow, .inr (10, [.ref a10_characters, .int i10_length, .int 0, .int i10_begin, .int i10_value, .int i10_behind]))] s.heap.size = A at hD ⊢
  have hA : ∀ q : Nat, s.heap.size ≤ q → A q := fun q h => by rw [← hAe]; exact Or.inr h
  have hS : va_S A s.heap s.heap [] := va_S.rf
  have hP : va_P D vwCl [(ord, .inr (5, [.int i5_faultPlace, .int i5_fault, .ref ow, .ref a5_game, .ref a5_isDrawOpen, .int i5_open, .int i5_isInEnd, .long l5_fractionTop, .long l5_fractionBottom, .ref a5_endTops, .ref a5_endBottoms, .ref a5_endDeedsOfA, .ref a5_endDeedsOfB])), (ow, .inr (10, [.ref a10_characters, .int i10_length, .int 0, .int i10_begin, .int i10_value, .int i10_behind]))] s.heap := hP
  have hl := lv_entry ([.ref ord]) (n := 3) (Nat.le_of_ble_eq_true rfl)
  rw [lg_entry_eq]
  generalize (lg_sl ([.ref ord]) ++ List.replicate (3 - (lg_sl ([.ref ord])).length) Slot.unset).toArray = ls at hl ⊢
  have hl : lv_has ls 3 [(0, .ref ord)] := hl
  refine lv_aload_n hx hb dX5_isOne_0 rfl (lv_at hl 0 rfl) ?_
  refine lv_iconst (v := 0) hx hb dX5_isOne_1 (by decide) ?_
  refine va_put (D := D) (ci := 5) (v := .int 0) (ty := .int) (C := RX5) (T := TX5) (N := 13) hx hb hts (by decide +kernel) tyX5 tyX5_ok nmX5 hown hK hP hD hS 0 rfl rfl 5 (by decide) (hts (.fieldLink RX5 36 "HiddenMoves$Reader" "open" "I") (by decide +kernel)) (fun _ h9 => h9) rfl (by decide +kernel) rfl rfl (Nat.le_of_ble_eq_true rfl) dX5_isOne_2 (fun H locs hP hD hS => ?_)
  have hP : va_P D vwCl [(ord, .inr (5, [.int i5_faultPlace, .int i5_fault, .ref ow, .ref a5_game, .ref a5_isDrawOpen, .int 0, .int i5_isInEnd, .long l5_fractionTop, .long l5_fractionBottom, .ref a5_endTops, .ref a5_endBottoms, .ref a5_endDeedsOfA, .ref a5_endDeedsOfB])), (ow, .inr (10, [.ref a10_characters, .int i10_length, .int 0, .int i10_begin, .int i10_value, .int i10_behind]))] H := hP
  have hD : va_D A [(ord, .inr (5, [.int i5_faultPlace, .int i5_fault, .ref ow, .ref a5_game, .ref a5_isDrawOpen, .int 0, .int i5_isInEnd, .long l5_fractionTop, .long l5_fractionBottom, .ref a5_endTops, .ref a5_endBottoms, .ref a5_endDeedsOfA, .ref a5_endDeedsOfB])), (ow, .inr (10, [.ref a10_characters, .int i10_length, .int 0, .int i10_begin, .int i10_value, .int i10_behind]))] := hD
  refine lv_aload_n hx hb dX5_isOne_5 rfl (lv_at hl 0 rfl) ?_
  refine lv_iconst (v := 0) hx hb dX5_isOne_6 (by decide) ?_
  refine va_put (D := D) (ci := 5) (v := .int 0) (ty := .boolean) (C := RX5) (T := TX5) (N := 13) hx hb hts (by decide +kernel) tyX5 tyX5_ok nmX5 hown hK hP hD hS 0 rfl rfl 6 (by decide) (hts (.fieldLink RX5 39 "HiddenMoves$Reader" "isInEnd" "Z") (by decide +kernel)) (fun _ h9 => h9) rfl (by decide +kernel) rfl rfl (Nat.le_of_ble_eq_true rfl) dX5_isOne_7 (fun H locs hP hD hS => ?_)
  have hP : va_P D vwCl [(ord, .inr (5, [.int i5_faultPlace, .int i5_fault, .ref ow, .ref a5_game, .ref a5_isDrawOpen, .int 0, .int 0, .long l5_fractionTop, .long l5_fractionBottom, .ref a5_endTops, .ref a5_endBottoms, .ref a5_endDeedsOfA, .ref a5_endDeedsOfB])), (ow, .inr (10, [.ref a10_characters, .int i10_length, .int 0, .int i10_begin, .int i10_value, .int i10_behind]))] H := hP
  have hD : va_D A [(ord, .inr (5, [.int i5_faultPlace, .int i5_fault, .ref ow, .ref a5_game, .ref a5_isDrawOpen, .int 0, .int 0, .long l5_fractionTop, .long l5_fractionBottom, .ref a5_endTops, .ref a5_endBottoms, .ref a5_endDeedsOfA, .ref a5_endDeedsOfB])), (ow, .inr (10, [.ref a10_characters, .int i10_length, .int 0, .int i10_begin, .int i10_value, .int i10_behind]))] := hD
  refine lv_iconst (v := 1) hx hb dX5_isOne_10 (by decide) ?_
  refine lv_istore_n (lv' := [(1, .int 1), (0, .ref ord)]) hx hb dX5_isOne_11 rfl hl (by decide) rfl (fun ls hl => ?_)
  refine lv_iconst (v := 0) hx hb dX5_isOne_12 (by decide) ?_
  refine lv_istore_n (lv' := [(2, .int 0), (1, .int 1), (0, .ref ord)]) hx hb dX5_isOne_13 rfl hl (by decide) rfl (fun ls hl => ?_)
  refine lv_iload_n hx hb dX5_isOne_14 rfl (lv_at hl 0 rfl) ?_
  refine lv_sipush (v := (4000)) hx hb dX5_isOne_15 (by decide) ?_
  refine lv_icmp_gt (tgt := 56) hx hb dX5_isOne_18 (by decide) (fun c9 => absurd c9 (by decide)) (fun _ => ?_)
  refine lv_aload_n hx hb dX5_isOne_21 rfl (lv_at hl 2 rfl) ?_
  refine va_get (D := D) (ci := 5) (v := .ref ow) (C := RX5) (T := TX5) (N := 13) hx hb hts (by decide +kernel) hown hK hP 0 rfl rfl 2 (by decide) (hts (.fieldLink RX5 21 "HiddenMoves$Reader" "words" "LHiddenMoves$Words;") (by decide +kernel)) (fun _ h9 => h9) rfl dX5_isOne_22 ?_
  refine va_get (D := D) (ci := 10) (v := .int 0) (C := RX10) (T := TX10) (N := 6) hx hb hts (by decide +kernel) hown hK hP 1 rfl rfl 2 (by decide) (hts (.fieldLink RX5 88 "HiddenMoves$Words" "kind" "I") (by decide +kernel)) (fun _ h9 => h9) rfl dX5_isOne_25 ?_
  refine lv_if_eq (tgt := 56) hx hb dX5_isOne_28 (by decide) (fun _ => ?_) (fun c9 => absurd (by decide) c9)
  refine lv_iload_n hx hb dX5_isOne_56 rfl (lv_at hl 1 rfl) ?_
  refine lv_bipush (v := (10)) hx hb dX5_isOne_57 (by decide) ?_
  refine lv_icmp_ne (tgt := 73) hx hb dX5_isOne_59 (by decide) (fun _ => ?_) (fun c9 => absurd c9 (by decide))
  refine lv_iconst (v := 0) hx hb dX5_isOne_73 (by decide) ?_
  have hP9 := hP.sub (ws' := [(ord, .inr (5, [.int i5_faultPlace, .int i5_fault, .ref ow, .ref a5_game, .ref a5_isDrawOpen, .int 0, .int 0, .long l5_fractionTop, .long l5_fractionBottom, .ref a5_endTops, .ref a5_endBottoms, .ref a5_endDeedsOfA, .ref a5_endDeedsOfB])), (ow, .inr (10, [.ref a10_characters, .int i10_length, .int 0, .int i10_begin, .int i10_value, .int i10_behind]))]) [0, 1] rfl
  have hD9 := hD.sub (ws' := [(ord, .inr (5, [.int i5_faultPlace, .int i5_fault, .ref ow, .ref a5_game, .ref a5_isDrawOpen, .int 0, .int 0, .long l5_fractionTop, .long l5_fractionBottom, .ref a5_endTops, .ref a5_endBottoms, .ref a5_endDeedsOfA, .ref a5_endDeedsOfB])), (ow, .inr (10, [.ref a10_characters, .int i10_length, .int 0, .int i10_begin, .int i10_value, .int i10_behind]))]) [0, 1] (by decide) rfl
  have hK9 := hK.sub (tys' := []) [] rfl
  exact W.zret (v := 0) hx hb hr rfl (fun t ht hW => ⟨⟨0, (), rfl, rfl, by rw [ht]; exact hP9, va_K.moved hW.alike hK9, hD9⟩, hS.F ht⟩) hS.2.2 dX5_isOne_74
