set_option maxHeartbeats 8000000 in
set_option maxRecDepth 100000 in
theorem kw_tell (l : Launch) (hlt : l.stackTraces = false) (D : va_G) (sz : Nat) (C : Nat → ClassId) (L : List Nat) (K : Nat → cw_K) (z : Nat → Nat → Int) (r : Nat → Nat → Nat) (A : Nat → Nat → Int) (y0 : Nat) (y1 : Int) (y2 : Int) (y3 : Int) (y4 : Int) (y5 : Int) (Q : Int → (Nat → Nat → Int) → (Nat → Nat → Int) → Prop) (hO : cw_O L K 11 y0) (hw : wp_c11_tell L K z r A y0 y1 y2 y3 y4 y5 (fun A' => Q 0 z A') (fun E A' => (E = "java/lang/IndexOutOfBoundsException" ∧ Q 1 z A') ∨ (E = "java/lang/IllegalArgumentException" ∧ Q 2 z A'))) : Met l yL_tell wsL_tell ({ frames := 7, cells := 1, slots := 6, locals := 115 } : Room) (va_Pc [.ref y0, .int (hz_i y1), .int (hz_i y2), .int (hz_i y3), .int (hz_i y4), .int (hz_i y5)] (hm_PX D (cw_w C L K z r A) (cw_t C) sz)) (va_Qi (S := Int × (Nat → Nat → Int) × (Nat → Nat → Nat) × (Nat → Nat → Int)) (fun x9 u => ∃ k9 : Int, x9 = hz_i k9 ∧ Q k9 u.2.1 u.2.2.2) (fun u t => hm_B D (va_A (cw_w C L K z r A) sz) (cw_w C L K u.2.1 r u.2.2.2) (cw_t C) t) (va_A (cw_w C L K z r A) sz)) 1 6 (va_A (cw_w C L K z r A) sz) := by
  refine va_MetW (cc := cL_tell) (maxL := 7) (ret := (some .int)) (hh := [(0, 11, 14, 13), (0, 11, 18, 15)]) (by decide) rfl ?_
  intro p e s m args below meth c s₁ B hml hv
  obtain ⟨rfl, ⟨hsz, hP, hK, hD0, hE⟩, hXX, hZU, hZN⟩ := hv
  have hx := B.exec
  have hb := B.bytes
  have hr := B.returns
  have hts := atoms_spec (ws := wsL_tell) B.pre
  have hown : s.vm.findClass RL = some m.cls := findClass_of_methodNamed B.named
  have hlocks := B.notSynchronized
  subst hsz
  have hD := hD0.self (sz := s.heap.size)
  generalize hAe : va_A (cw_w C L K z r A) s.heap.size = Ad at hD hZU hZN ⊢
  have hA : ∀ q : Nat, s.heap.size ≤ q → Ad q := fun q h => by rw [← hAe]; exact Or.inr h
  have hS : va_S Ad s.heap s.heap [] := va_S.rf
  have hl := lv_entry ([.ref y0, .int (hz_i y1), .int (hz_i y2), .int (hz_i y3), .int (hz_i y4), .int (hz_i y5)]) (n := 7) (Nat.le_of_ble_eq_true rfl)
  rw [lg_entry_eq]
  generalize (lg_sl ([.ref y0, .int (hz_i y1), .int (hz_i y2), .int (hz_i y3), .int (hz_i y4), .int (hz_i y5)]) ++ List.replicate (7 - (lg_sl ([.ref y0, .int (hz_i y1), .int (hz_i y2), .int (hz_i y3), .int (hz_i y4), .int (hz_i y5)])).length) Slot.unset).toArray = ls at hl ⊢
  have hl : lv_has ls 7 [(0, .ref y0), (1, .int (hz_i y1)), (2, .int (hz_i y2)), (3, .int (hz_i y3)), (4, .int (hz_i y4)), (5, .int (hz_i y5))] := hl
  have htab := vx_table (x := yL_tell) B (hts _ List.mem_cons_self)
  refine lv_aload_n hx hb dL_tell_0 rfl (lv_at hl 0 rfl) ?_
  refine lv_iload_n hx hb dL_tell_1 rfl (lv_at hl 1 rfl) ?_
  refine lv_iload_n hx hb dL_tell_2 rfl (lv_at hl 2 rfl) ?_
  refine lv_iload_n hx hb dL_tell_3 rfl (lv_at hl 3 rfl) ?_
  refine lv_iload hx hb dL_tell_4 (lv_at hl 4 rfl) ?_
  refine lv_iload hx hb dL_tell_6 (lv_at hl 5 rfl) ?_
  have hFc := cw_free hD hS hA
  obtain ⟨q8, hq8⟩ := cw_at (C := C) (z := z) (r := r) (A := A) hO.1 hO.2
  refine vx_callv (vx_runV (As := [.int (hz_i y1), .int (hz_i y2), .int (hz_i y3), .int (hz_i y4), .int (hz_i y5)]) (rest := []) ⟨hx, hb, hml, hown, hts⟩ (k_c11_tell l hlt D _ C L K z r A y0 y1 y2 y3 y4 y5 _ _ hw) (cwV 5 hts gL_tell_X11_tell rfl rfl rfl (by decide +kernel) ⟨Nat.le_of_ble_eq_true rfl, Nat.le_of_ble_eq_true rfl⟩) ⟨hm_blindX, va_recv hK hP (ci := 11) (q0 := q8) rfl hq8, hm_preX hP hK hD hE hXX hZU hZN hFc⟩ rfl rfl hl.1 rfl (lv_room (Nat.le_of_ble_eq_true rfl)) dL_tell_8 ⟨Nat.le_of_ble_eq_true rfl, Nat.le_of_ble_eq_true rfl⟩) hS (fun q _ h => hFc q h) hFc (fun q _ h => hFc q h) (fun E ce q9 u t H1 locs ht hvm hpx hBX hz1 hk1 hS hcell hcv hcls => ?_) (fun u t H1 locs ht hvm hw hB hz1 hk1 hS => ?_)
  · obtain ⟨_, z', _, A'⟩ := u
    obtain ⟨hEQ, hP1, hK1, hD1⟩ := hBX
    rw [ht] at hP1
    have hK := va_K.moved hvm.symm hK1
    have hP : va_P D vwCl (cw_w C L K z r A') H1 := hP1
    have hD : va_D Ad (cw_w C L K z r A') := hD1.weaken (fun k q _ h => hFc q.1 h)
    refine vx_widen (k := 1) (n := 6) (by omega) (by omega) ?_
    rcases hEQ with ⟨rfl, hQ⟩ | ⟨rfl, hQ⟩
    · refine vx_catch (name := "java/lang/IndexOutOfBoundsException") hown [] ⟨0, 11, 14, 13⟩ [⟨0, 11, 18, 15⟩] (by rw [htab]; rfl) (fun z h => nomatch h) (by decide) (by decide) (hts (.classLink RL 13 "java/lang/IndexOutOfBoundsException") (List.mem_cons_of_mem _ (List.mem_append_left _ (List.mem_append_left _ (List.mem_append_left _ (List.mem_append_left _ (List.mem_append_left _ (List.mem_append_left _ (List.mem_append_left _ (List.mem_of_getElem? (i := 0) rfl)))))))))) (va_Nw.use rfl hXX.cast_IOO) hcell hcv hcls ?_
      refine lv_astore (lv' := [(6, .ref q9), (0, .ref y0), (1, .int (hz_i y1)), (2, .int (hz_i y2)), (3, .int (hz_i y3)), (4, .int (hz_i y4)), (5, .int (hz_i y5))]) hx hb dL_tell_14 hl (by decide) rfl (fun ls hl => ?_)
      refine lv_iconst (v := 1) hx hb dL_tell_16 (by decide) ?_
      exact W.iret (v := 1) hx hb hr (fun t ht hW => ⟨⟨1, (0, z, r, A'), rfl, ⟨1, by decide +kernel, hQ⟩, by rw [ht]; exact hP, va_K.moved hW.alike hK, hD⟩, hS.F ht⟩) hS.2.2 dL_tell_17
    · refine vx_catch (name := "java/lang/IllegalArgumentException") hown [⟨0, 11, 14, 13⟩] ⟨0, 11, 18, 15⟩ [] (by rw [htab]; rfl) (fun z h => by rw [List.mem_singleton.mp h]; exact Or.inr ⟨by decide, "java/lang/IndexOutOfBoundsException", (hts (.classLink RL 13 "java/lang/IndexOutOfBoundsException") (List.mem_cons_of_mem _ (List.mem_append_left _ (List.mem_append_left _ (List.mem_append_left _ (List.mem_append_left _ (List.mem_append_left _ (List.mem_append_left _ (List.mem_append_left _ (List.mem_of_getElem? (i := 0) rfl)))))))))), hXX.nc_AO⟩) (by decide) (by decide) (hts (.classLink RL 15 "java/lang/IllegalArgumentException") (List.mem_cons_of_mem _ (List.mem_append_left _ (List.mem_append_left _ (List.mem_append_left _ (List.mem_append_left _ (List.mem_append_left _ (List.mem_append_left _ (List.mem_append_left _ (List.mem_of_getElem? (i := 1) rfl)))))))))) (va_Nw.use rfl hXX.cast_IAE) hcell hcv hcls ?_
      refine lv_astore (lv' := [(6, .ref q9), (0, .ref y0), (1, .int (hz_i y1)), (2, .int (hz_i y2)), (3, .int (hz_i y3)), (4, .int (hz_i y4)), (5, .int (hz_i y5))]) hx hb dL_tell_18 hl (by decide) rfl (fun ls hl => ?_)
      refine lv_iconst (v := 2) hx hb dL_tell_20 (by decide) ?_
      exact W.iret (v := 2) hx hb hr (fun t ht hW => ⟨⟨2, (0, z, r, A'), rfl, ⟨2, by decide +kernel, hQ⟩, by rw [ht]; exact hP, va_K.moved hW.alike hK, hD⟩, hS.F ht⟩) hS.2.2 dL_tell_21
  · obtain ⟨_, z', _, A'⟩ := u
    obtain ⟨hP1, hK1, hD1⟩ := hB
    rw [ht] at hP1
    have hK := va_K.moved hvm.symm hK1
    have hP : va_P D vwCl (cw_w C L K z r A') H1 := hP1
    have hD : va_D Ad (cw_w C L K z r A') := hD1.weaken (fun k q _ h => hFc q.1 h)
    have hQ : Q 0 z A' := hw
    refine W.eq (g2 := F0 m 11 ls []) rfl ?_
    refine lv_goto (tgt := 22) hx hb dL_tell_11 (by decide) ?_
    refine lv_iconst (v := 0) hx hb dL_tell_22 (by decide) ?_
    refine W.widen (k := 1) (n := 6) (by omega) (by omega) ?_
    exact W.iret (v := 0) hx hb hr (fun t ht hW => ⟨⟨0, (0, z, r, A'), rfl, ⟨0, by decide +kernel, hQ⟩, by rw [ht]; exact hP, va_K.moved hW.alike hK, hD⟩, hS.F ht⟩) hS.2.2 dL_tell_23

set_option maxHeartbeats 8000000 in
set_option maxRecDepth 100000 in
theorem kw_solve (l : Launch) (hlt : l.stackTraces = false) (D : va_G) (sz : Nat) (C : Nat → ClassId) (L : List Nat) (K : Nat → cw_K) (z : Nat → Nat → Int) (r : Nat → Nat → Nat) (A : Nat → Nat → Int) (y0 : Nat) (Q : Int → (Nat → Nat → Int) → (Nat → Nat → Int) → Prop) (hO : cw_O L K 11 y0) (hw : wp_c11_solve L K z r A y0 (fun z' A' => Q 0 z' A') (fun E z' A' => (E = "java/lang/IllegalStateException" ∧ Q 1 z' A'))) : Met l yL_solve wsL_solve ({ frames := 7, cells := 1, slots := 6, locals := 171 } : Room) (va_Pc [.ref y0] (hm_PX D (cw_w C L K z r A) (cw_t C) sz)) (va_Qi (S := Int × (Nat → Nat → Int) × (Nat → Nat → Nat) × (Nat → Nat → Int)) (fun x9 u => ∃ k9 : Int, x9 = hz_i k9 ∧ Q k9 u.2.1 u.2.2.2) (fun u t => hm_B D (va_A (cw_w C L K z r A) sz) (cw_w C L K u.2.1 r u.2.2.2) (cw_t C) t) (va_A (cw_w C L K z r A) sz)) 1 6 (va_A (cw_w C L K z r A) sz) := by
  refine va_MetW (cc := cL_solve) (maxL := 2) (ret := (some .int)) (hh := [(0, 4, 7, 20)]) (by decide) rfl ?_
  intro p e s m args below meth c s₁ B hml hv
  obtain ⟨rfl, ⟨hsz, hP, hK, hD0, hE⟩, hXX, hZU, hZN⟩ := hv
  have hx := B.exec
  have hb := B.bytes
  have hr := B.returns
  have hts := atoms_spec (ws := wsL_solve) B.pre
  have hown : s.vm.findClass RL = some m.cls := findClass_of_methodNamed B.named
  have hlocks := B.notSynchronized
  subst hsz
  have hD := hD0.self (sz := s.heap.size)
  generalize hAe : va_A (cw_w C L K z r A) s.heap.size = Ad at hD hZU hZN ⊢
  have hA : ∀ q : Nat, s.heap.size ≤ q → Ad q := fun q h => by rw [← hAe]; exact Or.inr h
  have hS : va_S Ad s.heap s.heap [] := va_S.rf
  have hl := lv_entry ([.ref y0]) (n := 2) (Nat.le_of_ble_eq_true rfl)
  rw [lg_entry_eq]
  generalize (lg_sl ([.ref y0]) ++ List.replicate (2 - (lg_sl ([.ref y0])).length) Slot.unset).toArray = ls at hl ⊢
  have hl : lv_has ls 2 [(0, .ref y0)] := hl
  have htab := vx_table (x := yL_solve) B (hts _ List.mem_cons_self)
  refine lv_aload_n hx hb dL_solve_0 rfl (lv_at hl 0 rfl) ?_
  have hFc := cw_free hD hS hA
  obtain ⟨q8, hq8⟩ := cw_at (C := C) (z := z) (r := r) (A := A) hO.1 hO.2
  refine vx_callv (vx_runV (As := []) (rest := []) ⟨hx, hb, hml, hown, hts⟩ (k_c11_solve l hlt D _ C L K z r A y0 _ _ hw) (cwV 0 hts gL_solve_X11_solve rfl rfl rfl (by decide +kernel) ⟨Nat.le_of_ble_eq_true rfl, Nat.le_of_ble_eq_true rfl⟩) ⟨hm_blindX, va_recv hK hP (ci := 11) (q0 := q8) rfl hq8, hm_preX hP hK hD hE hXX hZU hZN hFc⟩ rfl rfl hl.1 rfl (lv_room (Nat.le_of_ble_eq_true rfl)) dL_solve_1 ⟨Nat.le_of_ble_eq_true rfl, Nat.le_of_ble_eq_true rfl⟩) hS (fun q _ h => hFc q h) hFc (fun q _ h => hFc q h) (fun E ce q9 u t H1 locs ht hvm hpx hBX hz1 hk1 hS hcell hcv hcls => ?_) (fun u t H1 locs ht hvm hw hB hz1 hk1 hS => ?_)
  · obtain ⟨_, z', _, A'⟩ := u
    obtain ⟨hEQ, hP1, hK1, hD1⟩ := hBX
    rw [ht] at hP1
    have hK := va_K.moved hvm.symm hK1
    have hP : va_P D vwCl (cw_w C L K z' r A') H1 := hP1
    have hD : va_D Ad (cw_w C L K z' r A') := hD1.weaken (fun k q _ h => hFc q.1 h)
    refine vx_widen (k := 1) (n := 6) (by omega) (by omega) ?_
    rcases hEQ with ⟨rfl, hQ⟩
    refine vx_catch (name := "java/lang/IllegalStateException") hown [] ⟨0, 4, 7, 20⟩ [] (by rw [htab]; rfl) (fun z h => nomatch h) (by decide) (by decide) (hts (.classLink RL 20 "java/lang/IllegalStateException") (List.mem_cons_of_mem _ (List.mem_append_left _ (List.mem_append_left _ (List.mem_append_left _ (List.mem_append_left _ (List.mem_append_left _ (List.mem_append_left _ (List.mem_append_left _ (List.mem_append_left _ (List.mem_append_left _ (List.mem_append_left _ (List.mem_of_getElem? (i := 0) rfl))))))))))))) (va_Nw.use rfl hXX.cast_ISE) hcell hcv hcls ?_
    refine lv_astore_n (lv' := [(1, .ref q9), (0, .ref y0)]) hx hb dL_solve_7 rfl hl (by decide) rfl (fun ls hl => ?_)
    refine lv_iconst (v := 1) hx hb dL_solve_8 (by decide) ?_
    exact W.iret (v := 1) hx hb hr (fun t ht hW => ⟨⟨1, (0, z', r, A'), rfl, ⟨1, by decide +kernel, hQ⟩, by rw [ht]; exact hP, va_K.moved hW.alike hK, hD⟩, hS.F ht⟩) hS.2.2 dL_solve_9
  · obtain ⟨_, z', _, A'⟩ := u
    obtain ⟨hP1, hK1, hD1⟩ := hB
    rw [ht] at hP1
    have hK := va_K.moved hvm.symm hK1
    have hP : va_P D vwCl (cw_w C L K z' r A') H1 := hP1
    have hD : va_D Ad (cw_w C L K z' r A') := hD1.weaken (fun k q _ h => hFc q.1 h)
    have hQ : Q 0 z' A' := hw
    refine W.eq (g2 := F0 m 4 ls []) rfl ?_
    refine lv_goto (tgt := 10) hx hb dL_solve_4 (by decide) ?_
    refine lv_iconst (v := 0) hx hb dL_solve_10 (by decide) ?_
    refine W.widen (k := 1) (n := 6) (by omega) (by omega) ?_
    exact W.iret (v := 0) hx hb hr (fun t ht hW => ⟨⟨0, (0, z', r, A'), rfl, ⟨0, by decide +kernel, hQ⟩, by rw [ht]; exact hP, va_K.moved hW.alike hK, hD⟩, hS.F ht⟩) hS.2.2 dL_solve_11

set_option maxHeartbeats 8000000 in
set_option maxRecDepth 100000 in
theorem kw_expect (l : Launch) (hlt : l.stackTraces = false) (D : va_G) (sz : Nat) (C : Nat → ClassId) (L : List Nat) (K : Nat → cw_K) (z : Nat → Nat → Int) (r : Nat → Nat → Nat) (A : Nat → Nat → Int) (y0 : Nat) (Q : Int → (Nat → Nat → Int) → (Nat → Nat → Int) → Prop) (hO : cw_O L K 11 y0) (hw : wp_c11_expect L K z r A y0 (fun z' A' => Q 0 z' A') (fun E z' A' => (E = "java/lang/IllegalStateException" ∧ Q 1 z' A'))) : Met l yL_expect wsL_expect ({ frames := 8, cells := 1, slots := 6, locals := 189 } : Room) (va_Pc [.ref y0] (hm_PX D (cw_w C L K z r A) (cw_t C) sz)) (va_Qi (S := Int × (Nat → Nat → Int) × (Nat → Nat → Nat) × (Nat → Nat → Int)) (fun x9 u => ∃ k9 : Int, x9 = hz_i k9 ∧ Q k9 u.2.1 u.2.2.2) (fun u t => hm_B D (va_A (cw_w C L K z r A) sz) (cw_w C L K u.2.1 r u.2.2.2) (cw_t C) t) (va_A (cw_w C L K z r A) sz)) 1 6 (va_A (cw_w C L K z r A) sz) := by
  refine va_MetW (cc := cL_expect) (maxL := 2) (ret := (some .int)) (hh := [(0, 4, 7, 20)]) (by decide) rfl ?_
  intro p e s m args below meth c s₁ B hml hv
  obtain ⟨rfl, ⟨hsz, hP, hK, hD0, hE⟩, hXX, hZU, hZN⟩ := hv
  have hx := B.exec
  have hb := B.bytes
  have hr := B.returns
  have hts := atoms_spec (ws := wsL_expect) B.pre
  have hown : s.vm.findClass RL = some m.cls := findClass_of_methodNamed B.named
  have hlocks := B.notSynchronized
  subst hsz
  have hD := hD0.self (sz := s.heap.size)
  generalize hAe : va_A (cw_w C L K z r A) s.heap.size = Ad at hD hZU hZN ⊢
  have hA : ∀ q : Nat, s.heap.size ≤ q → Ad q := fun q h => by rw [← hAe]; exact Or.inr h
  have hS : va_S Ad s.heap s.heap [] := va_S.rf
  have hl := lv_entry ([.ref y0]) (n := 2) (Nat.le_of_ble_eq_true rfl)
  rw [lg_entry_eq]
  generalize (lg_sl ([.ref y0]) ++ List.replicate (2 - (lg_sl ([.ref y0])).length) Slot.unset).toArray = ls at hl ⊢
  have hl : lv_has ls 2 [(0, .ref y0)] := hl
  have htab := vx_table (x := yL_expect) B (hts _ List.mem_cons_self)
  refine lv_aload_n hx hb dL_expect_0 rfl (lv_at hl 0 rfl) ?_
  have hFc := cw_free hD hS hA
  obtain ⟨q8, hq8⟩ := cw_at (C := C) (z := z) (r := r) (A := A) hO.1 hO.2
  refine vx_callv (vx_runV (As := []) (rest := []) ⟨hx, hb, hml, hown, hts⟩ (k_c11_expect l hlt D _ C L K z r A y0 _ _ hw) (cwV 0 hts gL_expect_X11_expect rfl rfl rfl (by decide +kernel) ⟨Nat.le_of_ble_eq_true rfl, Nat.le_of_ble_eq_true rfl⟩) ⟨hm_blindX, va_recv hK hP (ci := 11) (q0 := q8) rfl hq8, hm_preX hP hK hD hE hXX hZU hZN hFc⟩ rfl rfl hl.1 rfl (lv_room (Nat.le_of_ble_eq_true rfl)) dL_expect_1 ⟨Nat.le_of_ble_eq_true rfl, Nat.le_of_ble_eq_true rfl⟩) hS (fun q _ h => hFc q h) hFc (fun q _ h => hFc q h) (fun E ce q9 u t H1 locs ht hvm hpx hBX hz1 hk1 hS hcell hcv hcls => ?_) (fun u t H1 locs ht hvm hw hB hz1 hk1 hS => ?_)
  · obtain ⟨_, z', _, A'⟩ := u
    obtain ⟨hEQ, hP1, hK1, hD1⟩ := hBX
    rw [ht] at hP1
    have hK := va_K.moved hvm.symm hK1
    have hP : va_P D vwCl (cw_w C L K z' r A') H1 := hP1
    have hD : va_D Ad (cw_w C L K z' r A') := hD1.weaken (fun k q _ h => hFc q.1 h)
    refine vx_widen (k := 1) (n := 6) (by omega) (by omega) ?_
    rcases hEQ with ⟨rfl, hQ⟩
    refine vx_catch (name := "java/lang/IllegalStateException") hown [] ⟨0, 4, 7, 20⟩ [] (by rw [htab]; rfl) (fun z h => nomatch h) (by decide) (by decide) (hts (.classLink RL 20 "java/lang/IllegalStateException") (List.mem_cons_of_mem _ (List.mem_append_left _ (List.mem_append_left _ (List.mem_append_left _ (List.mem_append_left _ (List.mem_append_left _ (List.mem_append_left _ (List.mem_append_left _ (List.mem_append_left _ (List.mem_append_left _ (List.mem_append_left _ (List.mem_append_left _ (List.mem_of_getElem? (i := 0) rfl)))))))))))))) (va_Nw.use rfl hXX.cast_ISE) hcell hcv hcls ?_
    refine lv_astore_n (lv' := [(1, .ref q9), (0, .ref y0)]) hx hb dL_expect_7 rfl hl (by decide) rfl (fun ls hl => ?_)
    refine lv_iconst (v := 1) hx hb dL_expect_8 (by decide) ?_
    exact W.iret (v := 1) hx hb hr (fun t ht hW => ⟨⟨1, (0, z', r, A'), rfl, ⟨1, by decide +kernel, hQ⟩, by rw [ht]; exact hP, va_K.moved hW.alike hK, hD⟩, hS.F ht⟩) hS.2.2 dL_expect_9
  · obtain ⟨_, z', _, A'⟩ := u
    obtain ⟨hP1, hK1, hD1⟩ := hB
    rw [ht] at hP1
    have hK := va_K.moved hvm.symm hK1
    have hP : va_P D vwCl (cw_w C L K z' r A') H1 := hP1
    have hD : va_D Ad (cw_w C L K z' r A') := hD1.weaken (fun k q _ h => hFc q.1 h)
    have hQ : Q 0 z' A' := hw
    refine W.eq (g2 := F0 m 4 ls []) rfl ?_
    refine lv_goto (tgt := 10) hx hb dL_expect_4 (by decide) ?_
    refine lv_iconst (v := 0) hx hb dL_expect_10 (by decide) ?_
    refine W.widen (k := 1) (n := 6) (by omega) (by omega) ?_
    exact W.iret (v := 0) hx hb hr (fun t ht hW => ⟨⟨0, (0, z', r, A'), rfl, ⟨0, by decide +kernel, hQ⟩, by rw [ht]; exact hP, va_K.moved hW.alike hK, hD⟩, hS.F ht⟩) hS.2.2 dL_expect_11

set_option maxHeartbeats 8000000 in
set_option maxRecDepth 100000 in
theorem kw_judge (l : Launch) (hlt : l.stackTraces = false) (D : va_G) (sz : Nat) (C : Nat → ClassId) (L : List Nat) (K : Nat → cw_K) (z : Nat → Nat → Int) (r : Nat → Nat → Nat) (A : Nat → Nat → Int) (y0 : Nat) (y1 : Int) (Q : Int → (Nat → Nat → Int) → (Nat → Nat → Int) → Prop) (hO : cw_O L K 11 y0) (hw : wp_c11_judge L K z r A y0 y1 (fun z' A' => Q 0 z' A') (fun E z' A' => (E = "java/lang/IllegalArgumentException" ∧ Q 1 z' A') ∨ (E = "java/lang/IllegalStateException" ∧ Q 2 z' A'))) : Met l yL_judge wsL_judge ({ frames := 8, cells := 1, slots := 6, locals := 191 } : Room) (va_Pc [.ref y0, .int (hz_i y1)] (hm_PX D (cw_w C L K z r A) (cw_t C) sz)) (va_Qi (S := Int × (Nat → Nat → Int) × (Nat → Nat → Nat) × (Nat → Nat → Int)) (fun x9 u => ∃ k9 : Int, x9 = hz_i k9 ∧ Q k9 u.2.1 u.2.2.2) (fun u t => hm_B D (va_A (cw_w C L K z r A) sz) (cw_w C L K u.2.1 r u.2.2.2) (cw_t C) t) (va_A (cw_w C L K z r A) sz)) 1 6 (va_A (cw_w C L K z r A) sz) := by
  refine va_MetW (cc := cL_judge) (maxL := 3) (ret := (some .int)) (hh := [(0, 5, 8, 15), (0, 5, 11, 20)]) (by decide) rfl ?_
  intro p e s m args below meth c s₁ B hml hv
  obtain ⟨rfl, ⟨hsz, hP, hK, hD0, hE⟩, hXX, hZU, hZN⟩ := hv
  have hx := B.exec
  have hb := B.bytes
  have hr := B.returns
  have hts := atoms_spec (ws := wsL_judge) B.pre
  have hown : s.vm.findClass RL = some m.cls := findClass_of_methodNamed B.named
  have hlocks := B.notSynchronized
  subst hsz
  have hD := hD0.self (sz := s.heap.size)
  generalize hAe : va_A (cw_w C L K z r A) s.heap.size = Ad at hD hZU hZN ⊢
  have hA : ∀ q : Nat, s.heap.size ≤ q → Ad q := fun q h => by rw [← hAe]; exact Or.inr h
  have hS : va_S Ad s.heap s.heap [] := va_S.rf
  have hl := lv_entry ([.ref y0, .int (hz_i y1)]) (n := 3) (Nat.le_of_ble_eq_true rfl)
  rw [lg_entry_eq]
  generalize (lg_sl ([.ref y0, .int (hz_i y1)]) ++ List.replicate (3 - (lg_sl ([.ref y0, .int (hz_i y1)])).length) Slot.unset).toArray = ls at hl ⊢
  have hl : lv_has ls 3 [(0, .ref y0), (1, .int (hz_i y1))] := hl
  have htab := vx_table (x := yL_judge) B (hts _ List.mem_cons_self)
  refine lv_aload_n hx hb dL_judge_0 rfl (lv_at hl 0 rfl) ?_
  refine lv_iload_n hx hb dL_judge_1 rfl (lv_at hl 1 rfl) ?_
  have hFc := cw_free hD hS hA
  obtain ⟨q8, hq8⟩ := cw_at (C := C) (z := z) (r := r) (A := A) hO.1 hO.2
  refine vx_callv (vx_runV (As := [.int (hz_i y1)]) (rest := []) ⟨hx, hb, hml, hown, hts⟩ (k_c11_judge l hlt D _ C L K z r A y0 y1 _ _ hw) (cwV 1 hts gL_judge_X11_judge rfl rfl rfl (by decide +kernel) ⟨Nat.le_of_ble_eq_true rfl, Nat.le_of_ble_eq_true rfl⟩) ⟨hm_blindX, va_recv hK hP (ci := 11) (q0 := q8) rfl hq8, hm_preX hP hK hD hE hXX hZU hZN hFc⟩ rfl rfl hl.1 rfl (lv_room (Nat.le_of_ble_eq_true rfl)) dL_judge_2 ⟨Nat.le_of_ble_eq_true rfl, Nat.le_of_ble_eq_true rfl⟩) hS (fun q _ h => hFc q h) hFc (fun q _ h => hFc q h) (fun E ce q9 u t H1 locs ht hvm hpx hBX hz1 hk1 hS hcell hcv hcls => ?_) (fun u t H1 locs ht hvm hw hB hz1 hk1 hS => ?_)
  · obtain ⟨_, z', _, A'⟩ := u
    obtain ⟨hEQ, hP1, hK1, hD1⟩ := hBX
    rw [ht] at hP1
    have hK := va_K.moved hvm.symm hK1
    have hP : va_P D vwCl (cw_w C L K z' r A') H1 := hP1
    have hD : va_D Ad (cw_w C L K z' r A') := hD1.weaken (fun k q _ h => hFc q.1 h)
    refine vx_widen (k := 1) (n := 6) (by omega) (by omega) ?_
    rcases hEQ with ⟨rfl, hQ⟩ | ⟨rfl, hQ⟩
    · refine vx_catch (name := "java/lang/IllegalArgumentException") hown [] ⟨0, 5, 8, 15⟩ [⟨0, 5, 11, 20⟩] (by rw [htab]; rfl) (fun z h => nomatch h) (by decide) (by decide) (hts (.classLink RL 15 "java/lang/IllegalArgumentException") (List.mem_cons_of_mem _ (List.mem_append_left _ (List.mem_append_left _ (List.mem_append_left _ (List.mem_append_left _ (List.mem_append_left _ (List.mem_append_left _ (List.mem_append_left _ (List.mem_append_left _ (List.mem_append_left _ (List.mem_append_left _ (List.mem_append_left _ (List.mem_append_left _ (List.mem_of_getElem? (i := 0) rfl))))))))))))))) (va_Nw.use rfl hXX.cast_IAE) hcell hcv hcls ?_
      refine lv_astore_n (lv' := [(2, .ref q9), (0, .ref y0), (1, .int (hz_i y1))]) hx hb dL_judge_8 rfl hl (by decide) rfl (fun ls hl => ?_)
      refine lv_iconst (v := 1) hx hb dL_judge_9 (by decide) ?_
      exact W.iret (v := 1) hx hb hr (fun t ht hW => ⟨⟨1, (0, z', r, A'), rfl, ⟨1, by decide +kernel, hQ⟩, by rw [ht]; exact hP, va_K.moved hW.alike hK, hD⟩, hS.F ht⟩) hS.2.2 dL_judge_10
    · refine vx_catch (name := "java/lang/IllegalStateException") hown [⟨0, 5, 8, 15⟩] ⟨0, 5, 11, 20⟩ [] (by rw [htab]; rfl) (fun z h => by rw [List.mem_singleton.mp h]; exact Or.inr ⟨by decide, "java/lang/IllegalArgumentException", (hts (.classLink RL 15 "java/lang/IllegalArgumentException") (List.mem_cons_of_mem _ (List.mem_append_left _ (List.mem_append_left _ (List.mem_append_left _ (List.mem_append_left _ (List.mem_append_left _ (List.mem_append_left _ (List.mem_append_left _ (List.mem_append_left _ (List.mem_append_left _ (List.mem_append_left _ (List.mem_append_left _ (List.mem_append_left _ (List.mem_of_getElem? (i := 0) rfl))))))))))))))), hXX.nc_SA⟩) (by decide) (by decide) (hts (.classLink RL 20 "java/lang/IllegalStateException") (List.mem_cons_of_mem _ (List.mem_append_left _ (List.mem_append_left _ (List.mem_append_left _ (List.mem_append_left _ (List.mem_append_left _ (List.mem_append_left _ (List.mem_append_left _ (List.mem_append_left _ (List.mem_append_left _ (List.mem_append_left _ (List.mem_append_left _ (List.mem_append_left _ (List.mem_of_getElem? (i := 1) rfl))))))))))))))) (va_Nw.use rfl hXX.cast_ISE) hcell hcv hcls ?_
      refine lv_astore_n (lv' := [(2, .ref q9), (0, .ref y0), (1, .int (hz_i y1))]) hx hb dL_judge_11 rfl hl (by decide) rfl (fun ls hl => ?_)
      refine lv_iconst (v := 2) hx hb dL_judge_12 (by decide) ?_
      exact W.iret (v := 2) hx hb hr (fun t ht hW => ⟨⟨2, (0, z', r, A'), rfl, ⟨2, by decide +kernel, hQ⟩, by rw [ht]; exact hP, va_K.moved hW.alike hK, hD⟩, hS.F ht⟩) hS.2.2 dL_judge_13
  · obtain ⟨_, z', _, A'⟩ := u
    obtain ⟨hP1, hK1, hD1⟩ := hB
    rw [ht] at hP1
    have hK := va_K.moved hvm.symm hK1
    have hP : va_P D vwCl (cw_w C L K z' r A') H1 := hP1
    have hD : va_D Ad (cw_w C L K z' r A') := hD1.weaken (fun k q _ h => hFc q.1 h)
    have hQ : Q 0 z' A' := hw
    refine W.eq (g2 := F0 m 5 ls []) rfl ?_
    refine lv_goto (tgt := 14) hx hb dL_judge_5 (by decide) ?_
    refine lv_iconst (v := 0) hx hb dL_judge_14 (by decide) ?_
    refine W.widen (k := 1) (n := 6) (by omega) (by omega) ?_
    exact W.iret (v := 0) hx hb hr (fun t ht hW => ⟨⟨0, (0, z', r, A'), rfl, ⟨0, by decide +kernel, hQ⟩, by rw [ht]; exact hP, va_K.moved hW.alike hK, hD⟩, hS.F ht⟩) hS.2.2 dL_judge_15
