set_option maxHeartbeats 1000000 in
set_option maxRecDepth 100000 in
/-- solve() without a game: IllegalStateException -/
theorem x_X11_solve (l : Launch) (hlt : l.stackTraces = false) (D : va_G) (sz : Nat) (ox : Nat) (a11_reader : Nat) (a11_printed : Nat) (a11_solver : Nat) (a11_ways : Nat) (a11_told : Nat) (a11_found : Nat) (a11_replies : Nat) (a11_trial : Nat) (a11_results : Nat) (a11_probe : Nat) (a11_sum : Nat) (a11_whole : Nat) (a11_game : Nat) : vx_Met l yX11_solve wsX11_solve ({ frames := 6, cells := 1, slots := 6, locals := 90 }) (va_Pc [.ref ox] (hm_PX D [(ox, .inr (11, [.ref a11_reader, .ref a11_printed, .int 0, .ref a11_solver, .ref a11_ways, .ref a11_told, .ref a11_found, .ref a11_replies, .ref a11_trial, .ref a11_results, .ref a11_probe, .ref a11_sum, .ref a11_whole, .ref a11_game, .int 0, .int (-1)]))] [] sz)) (va_Qv (fun _ : Unit => False) (fun _ _ => True) (va_A [(ox, .inr (11, [.ref a11_reader, .ref a11_printed, .int 0, .ref a11_solver, .ref a11_ways, .ref a11_told, .ref a11_found, .ref a11_replies, .ref a11_trial, .ref a11_results, .ref a11_probe, .ref a11_sum, .ref a11_whole, .ref a11_game, .int 0, .int (-1)]))] sz)) (vx_X (fun _ : Unit => True) (fun E _ t => E = "java/lang/IllegalStateException" ∧ hm_B D (va_A [(ox, .inr (11, [.ref a11_reader, .ref a11_printed, .int 0, .ref a11_solver, .ref a11_ways, .ref a11_told, .ref a11_found, .ref a11_replies, .ref a11_trial, .ref a11_results, .ref a11_probe, .ref a11_sum, .ref a11_whole, .ref a11_game, .int 0, .int (-1)]))] sz) [(ox, .inr (11, [.ref a11_reader, .ref a11_printed, .int 0, .ref a11_solver, .ref a11_ways, .ref a11_told, .ref a11_found, .ref a11_replies, .ref a11_trial, .ref a11_results, .ref a11_probe, .ref a11_sum, .ref a11_whole, .ref a11_game, .int 0, .int (-1)]))] [] t) (va_A [(ox, .inr (11, [.ref a11_reader, .ref a11_printed, .int 0, .ref a11_solver, .ref a11_ways, .ref a11_told, .ref a11_found, .ref a11_replies, .ref a11_trial, .ref a11_results, .ref a11_probe, .ref a11_sum, .ref a11_whole, .ref a11_game, .int 0, .int (-1)]))] sz)) 1 6 (va_A [(ox, .inr (11, [.ref a11_reader, .ref a11_printed, .int 0, .ref a11_solver, .ref a11_ways, .ref a11_told, .ref a11_found, .ref a11_replies, .ref a11_trial, .ref a11_results, .ref a11_probe, .ref a11_sum, .ref a11_whole, .ref a11_game, .int 0, .int (-1)]))] sz) := by
  refine vx_ofW (cc := cX11_solve) (maxL := 1) (ret := none) (by decide) rfl ?_
  intro p e s m args below meth c s₁ B hml hno hv
  obtain ⟨rfl, ⟨hsz, hP, hK, hD0, hE⟩, hXX, hZU, hZN⟩ := hv
  have hx := B.exec
  have hb := B.bytes
  have hr := B.returns
  have hts := atoms_spec (ws := wsX11_solve) B.pre
  have hown : s.vm.findClass RX11 = some m.cls := findClass_of_methodNamed B.named
  have hlocks := B.notSynchronized
  subst hsz
  have hD := hD0.self (sz := s.heap.size)
  generalize hAe : va_A [(ox, .inr (11, [.ref a11_reader, .ref a11_printed, .int 0, .ref a11_solver, .ref a11_ways, .ref a11_told, .ref a11_found, .ref a11_replies, .ref a11_trial, .ref a11_results, .ref a11_probe, .ref a11_sum, .ref a11_whole, .ref a11_game, .int 0, .int (-1)]))] s.heap.size = A at hD hZU hZN ⊢
  have hA : ∀ q : Nat, s.heap.size ≤ q → A q := fun q h => by rw [← hAe]; exact Or.inr h
  have hS : va_S A s.heap s.heap [] := va_S.rf
  have hP : va_P D vwCl [(ox, .inr (11, [.ref a11_reader, .ref a11_printed, .int 0, .ref a11_solver, .ref a11_ways, .ref a11_told, .ref a11_found, .ref a11_replies, .ref a11_trial, .ref a11_results, .ref a11_probe, .ref a11_sum, .ref a11_whole, .ref a11_game, .int 0, .int (-1)]))] s.heap := hP
  have hl := lv_entry ([.ref ox]) (n := 1) (Nat.le_of_ble_eq_true rfl)
  rw [lg_entry_eq]
  generalize (lg_sl ([.ref ox]) ++ List.replicate (1 - (lg_sl ([.ref ox])).length) Slot.unset).toArray = ls at hl ⊢
  have hl : lv_has ls 1 [(0, .ref ox)] := hl
  refine lv_aload_n hx hb dX11_solve_0 rfl (lv_at hl 0 rfl) ?_
  refine va_get (D := D) (ci := 11) (v := .int 0) (C := RX11) (T := TX11) (N := 16) hx hb hts (by decide +kernel) hown hK hP 0 rfl rfl 14 (by decide) (hts (.fieldLink RX11 87 "HiddenMoves" "hasGame" "Z") (by decide +kernel)) (fun _ h9 => h9) rfl dX11_solve_1 ?_
  refine lv_if_ne (tgt := 17) hx hb dX11_solve_4 (by decide) (fun c9 => absurd c9 (by decide)) (fun _ => ?_)
  obtain ⟨sa, hstr⟩ := hXX.str_178
  exact vx_throwS (names := ["java/lang/RuntimeException", "java/lang/Exception"]) hx hb hlt hown (by decide) (by decide) (hts (.classLink RX11 176 "java/lang/IllegalStateException") (by decide +kernel)) (hts (.initialized "java/lang/IllegalStateException") (by decide +kernel)) hstr (vx_hat (fun w h => hts w (List.mem_cons_of_mem _ (List.mem_append_right _ h))) hm_bad_ISE (vx_c (va_Nw.use rfl hXX.cast_ISE) (vx_c (va_Nw.use rfl hXX.dec_R) (vx_c (va_Nw.use rfl hXX.dec_E) (vx_c (va_Nw.use rfl hXX.dec_T) vx_n))))) (by decide +kernel) hZU hZN hS (by rw [hml]; exact hl.1) dX11_solve_7 dX11_solve_10 dX11_solve_11 dX11_solve_13 dX11_solve_16 (fun x h => (hno x h).elim) (Nat.le_of_ble_eq_true rfl) (Nat.le_of_ble_eq_true rfl) (Nat.le_of_ble_eq_true rfl) (Nat.le_of_ble_eq_true rfl) hlocks (fun t hvm hz hk => ⟨(), trivial, ⟨rfl, hP.kept (fun k q hq => hk q.1 ((hP k q hq).lt)), va_K.moved hvm hK, hD⟩, Nat.le_trans hS.1 hz, fun q h1 h2 => (hk q (Nat.lt_of_lt_of_le h1 hS.1)).trans (hS.2.1 q h1 h2)⟩) hS.2.2 (Nat.le_of_ble_eq_true rfl) (Nat.le_of_ble_eq_true rfl)

set_option maxHeartbeats 1000000 in
set_option maxRecDepth 100000 in
/-- expect() without a game: IllegalStateException -/
theorem x_X11_expect (l : Launch) (hlt : l.stackTraces = false) (D : va_G) (sz : Nat) (ox : Nat) (a11_reader : Nat) (a11_printed : Nat) (a11_solver : Nat) (a11_ways : Nat) (a11_told : Nat) (a11_found : Nat) (a11_replies : Nat) (a11_trial : Nat) (a11_results : Nat) (a11_probe : Nat) (a11_sum : Nat) (a11_whole : Nat) (a11_game : Nat) : vx_Met l yX11_expect wsX11_expect ({ frames := 6, cells := 1, slots := 6, locals := 90 }) (va_Pc [.ref ox] (hm_PX D [(ox, .inr (11, [.ref a11_reader, .ref a11_printed, .int 0, .ref a11_solver, .ref a11_ways, .ref a11_told, .ref a11_found, .ref a11_replies, .ref a11_trial, .ref a11_results, .ref a11_probe, .ref a11_sum, .ref a11_whole, .ref a11_game, .int 0, .int (-1)]))] [] sz)) (va_Qv (fun _ : Unit => False) (fun _ _ => True) (va_A [(ox, .inr (11, [.ref a11_reader, .ref a11_printed, .int 0, .ref a11_solver, .ref a11_ways, .ref a11_told, .ref a11_found, .ref a11_replies, .ref a11_trial, .ref a11_results, .ref a11_probe, .ref a11_sum, .ref a11_whole, .ref a11_game, .int 0, .int (-1)]))] sz)) (vx_X (fun _ : Unit => True) (fun E _ t => E = "java/lang/IllegalStateException" ∧ hm_B D (va_A [(ox, .inr (11, [.ref a11_reader, .ref a11_printed, .int 0, .ref a11_solver, .ref a11_ways, .ref a11_told, .ref a11_found, .ref a11_replies, .ref a11_trial, .ref a11_results, .ref a11_probe, .ref a11_sum, .ref a11_whole, .ref a11_game, .int 0, .int (-1)]))] sz) [(ox, .inr (11, [.ref a11_reader, .ref a11_printed, .int 0, .ref a11_solver, .ref a11_ways, .ref a11_told, .ref a11_found, .ref a11_replies, .ref a11_trial, .ref a11_results, .ref a11_probe, .ref a11_sum, .ref a11_whole, .ref a11_game, .int 0, .int (-1)]))] [] t) (va_A [(ox, .inr (11, [.ref a11_reader, .ref a11_printed, .int 0, .ref a11_solver, .ref a11_ways, .ref a11_told, .ref a11_found, .ref a11_replies, .ref a11_trial, .ref a11_results, .ref a11_probe, .ref a11_sum, .ref a11_whole, .ref a11_game, .int 0, .int (-1)]))] sz)) 1 6 (va_A [(ox, .inr (11, [.ref a11_reader, .ref a11_printed, .int 0, .ref a11_solver, .ref a11_ways, .ref a11_told, .ref a11_found, .ref a11_replies, .ref a11_trial, .ref a11_results, .ref a11_probe, .ref a11_sum, .ref a11_whole, .ref a11_game, .int 0, .int (-1)]))] sz) := by
  refine vx_ofW (cc := cX11_expect) (maxL := 1) (ret := none) (by decide) rfl ?_
  intro p e s m args below meth c s₁ B hml hno hv
  obtain ⟨rfl, ⟨hsz, hP, hK, hD0, hE⟩, hXX, hZU, hZN⟩ := hv
  have hx := B.exec
  have hb := B.bytes
  have hr := B.returns
  have hts := atoms_spec (ws := wsX11_expect) B.pre
  have hown : s.vm.findClass RX11 = some m.cls := findClass_of_methodNamed B.named
  have hlocks := B.notSynchronized
  subst hsz
  have hD := hD0.self (sz := s.heap.size)
  generalize hAe : va_A [(ox, .inr (11, [.ref a11_reader, .ref a11_printed, .int 0, .ref a11_solver, .ref a11_ways, .ref a11_told, .ref a11_found, .ref a11_replies, .ref a11_trial, .ref a11_results, .ref a11_probe, .ref a11_sum, .ref a11_whole, .ref a11_game, .int 0, .int (-1)]))] s.heap.size = A at hD hZU hZN ⊢
  have hA : ∀ q : Nat, s.heap.size ≤ q → A q := fun q h => by rw [← hAe]; exact Or.inr h
  have hS : va_S A s.heap s.heap [] := va_S.rf
  have hP : va_P D vwCl [(ox, .inr (11, [.ref a11_reader, .ref a11_printed, .int 0, .ref a11_solver, .ref a11_ways, .ref a11_told, .ref a11_found, .ref a11_replies, .ref a11_trial, .ref a11_results, .ref a11_probe, .ref a11_sum, .ref a11_whole, .ref a11_game, .int 0, .int (-1)]))] s.heap := hP
  have hl := lv_entry ([.ref ox]) (n := 1) (Nat.le_of_ble_eq_true rfl)
  rw [lg_entry_eq]
  generalize (lg_sl ([.ref ox]) ++ List.replicate (1 - (lg_sl ([.ref ox])).length) Slot.unset).toArray = ls at hl ⊢
  have hl : lv_has ls 1 [(0, .ref ox)] := hl
  refine lv_aload_n hx hb dX11_expect_0 rfl (lv_at hl 0 rfl) ?_
  refine va_get (D := D) (ci := 11) (v := .int 0) (C := RX11) (T := TX11) (N := 16) hx hb hts (by decide +kernel) hown hK hP 0 rfl rfl 14 (by decide) (hts (.fieldLink RX11 87 "HiddenMoves" "hasGame" "Z") (by decide +kernel)) (fun _ h9 => h9) rfl dX11_expect_1 ?_
  refine lv_if_eq (tgt := 23) hx hb dX11_expect_4 (by decide) (fun _ => ?_) (fun c9 => absurd (by decide) c9)
  obtain ⟨sa, hstr⟩ := hXX.str_205
  exact vx_throwS (names := ["java/lang/RuntimeException", "java/lang/Exception"]) hx hb hlt hown (by decide) (by decide) (hts (.classLink RX11 176 "java/lang/IllegalStateException") (by decide +kernel)) (hts (.initialized "java/lang/IllegalStateException") (by decide +kernel)) hstr (vx_hat (fun w h => hts w (List.mem_cons_of_mem _ (List.mem_append_right _ h))) hm_bad_ISE (vx_c (va_Nw.use rfl hXX.cast_ISE) (vx_c (va_Nw.use rfl hXX.dec_R) (vx_c (va_Nw.use rfl hXX.dec_E) (vx_c (va_Nw.use rfl hXX.dec_T) vx_n))))) (by decide +kernel) hZU hZN hS (by rw [hml]; exact hl.1) dX11_expect_23 dX11_expect_26 dX11_expect_27 dX11_expect_29 dX11_expect_32 (fun x h => (hno x h).elim) (Nat.le_of_ble_eq_true rfl) (Nat.le_of_ble_eq_true rfl) (Nat.le_of_ble_eq_true rfl) (Nat.le_of_ble_eq_true rfl) hlocks (fun t hvm hz hk => ⟨(), trivial, ⟨rfl, hP.kept (fun k q hq => hk q.1 ((hP k q hq).lt)), va_K.moved hvm hK, hD⟩, Nat.le_trans hS.1 hz, fun q h1 h2 => (hk q (Nat.lt_of_lt_of_le h1 hS.1)).trans (hS.2.1 q h1 h2)⟩) hS.2.2 (Nat.le_of_ble_eq_true rfl) (Nat.le_of_ble_eq_true rfl)

set_option maxHeartbeats 1000000 in
set_option maxRecDepth 100000 in
/-- tell without a game: IndexOutOfBoundsException -/
theorem x_X11_tell (l : Launch) (hlt : l.stackTraces = false) (D : va_G) (sz : Nat) (ox : Nat) (a11_reader : Nat) (a11_printed : Nat) (a11_solver : Nat) (a11_ways : Nat) (a11_told : Nat) (a11_found : Nat) (a11_replies : Nat) (a11_trial : Nat) (a11_results : Nat) (a11_probe : Nat) (a11_sum : Nat) (a11_whole : Nat) (a11_game : Nat) (p0 : Int32) (p1 : Int32) (p2 : Int32) (p3 : Int32) (p4 : Int32) : vx_Met l yX11_tell wsX11_tell ({ frames := 6, cells := 1, slots := 6, locals := 90 }) (va_Pc [.ref ox, .int p0, .int p1, .int p2, .int p3, .int p4] (hm_PX D [(ox, .inr (11, [.ref a11_reader, .ref a11_printed, .int 0, .ref a11_solver, .ref a11_ways, .ref a11_told, .ref a11_found, .ref a11_replies, .ref a11_trial, .ref a11_results, .ref a11_probe, .ref a11_sum, .ref a11_whole, .ref a11_game, .int 0, .int (-1)]))] [] sz)) (va_Qv (fun _ : Unit => False) (fun _ _ => True) (va_A [(ox, .inr (11, [.ref a11_reader, .ref a11_printed, .int 0, .ref a11_solver, .ref a11_ways, .ref a11_told, .ref a11_found, .ref a11_replies, .ref a11_trial, .ref a11_results, .ref a11_probe, .ref a11_sum, .ref a11_whole, .ref a11_game, .int 0, .int (-1)]))] sz)) (vx_X (fun _ : Unit => True) (fun E _ t => E = "java/lang/IndexOutOfBoundsException" ∧ hm_B D (va_A [(ox, .inr (11, [.ref a11_reader, .ref a11_printed, .int 0, .ref a11_solver, .ref a11_ways, .ref a11_told, .ref a11_found, .ref a11_replies, .ref a11_trial, .ref a11_results, .ref a11_probe, .ref a11_sum, .ref a11_whole, .ref a11_game, .int 0, .int (-1)]))] sz) [(ox, .inr (11, [.ref a11_reader, .ref a11_printed, .int 0, .ref a11_solver, .ref a11_ways, .ref a11_told, .ref a11_found, .ref a11_replies, .ref a11_trial, .ref a11_results, .ref a11_probe, .ref a11_sum, .ref a11_whole, .ref a11_game, .int 0, .int (-1)]))] [] t) (va_A [(ox, .inr (11, [.ref a11_reader, .ref a11_printed, .int 0, .ref a11_solver, .ref a11_ways, .ref a11_told, .ref a11_found, .ref a11_replies, .ref a11_trial, .ref a11_results, .ref a11_probe, .ref a11_sum, .ref a11_whole, .ref a11_game, .int 0, .int (-1)]))] sz)) 1 6 (va_A [(ox, .inr (11, [.ref a11_reader, .ref a11_printed, .int 0, .ref a11_solver, .ref a11_ways, .ref a11_told, .ref a11_found, .ref a11_replies, .ref a11_trial, .ref a11_results, .ref a11_probe, .ref a11_sum, .ref a11_whole, .ref a11_game, .int 0, .int (-1)]))] sz) := by
  refine vx_ofW (cc := cX11_tell) (maxL := 6) (ret := none) (by decide) rfl ?_
  intro p e s m args below meth c s₁ B hml hno hv
  obtain ⟨rfl, ⟨hsz, hP, hK, hD0, hE⟩, hXX, hZU, hZN⟩ := hv
  have hx := B.exec
  have hb := B.bytes
  have hr := B.returns
  have hts := atoms_spec (ws := wsX11_tell) B.pre
  have hown : s.vm.findClass RX11 = some m.cls := findClass_of_methodNamed B.named
  have hlocks := B.notSynchronized
  subst hsz
  have hD := hD0.self (sz := s.heap.size)
  generalize hAe : va_A [(ox, .inr (11, [.ref a11_reader, .ref a11_printed, .int 0, .ref a11_solver, .ref a11_ways, .ref a11_told, .ref a11_found, .ref a11_replies, .ref a11_trial, .ref a11_results, .ref a11_probe, .ref a11_sum, .ref a11_whole, .ref a11_game, .int 0, .int (-1)]))] s.heap.size = A at hD hZU hZN ⊢
  have hA : ∀ q : Nat, s.heap.size ≤ q → A q := fun q h => by rw [← hAe]; exact Or.inr h
  have hS : va_S A s.heap s.heap [] := va_S.rf
  have hP : va_P D vwCl [(ox, .inr (11, [.ref a11_reader, .ref a11_printed, .int 0, .ref a11_solver, .ref a11_ways, .ref a11_told, .ref a11_found, .ref a11_replies, .ref a11_trial, .ref a11_results, .ref a11_probe, .ref a11_sum, .ref a11_whole, .ref a11_game, .int 0, .int (-1)]))] s.heap := hP
  have hl := lv_entry ([.ref ox, .int p0, .int p1, .int p2, .int p3, .int p4]) (n := 6) (Nat.le_of_ble_eq_true rfl)
  rw [lg_entry_eq]
  generalize (lg_sl ([.ref ox, .int p0, .int p1, .int p2, .int p3, .int p4]) ++ List.replicate (6 - (lg_sl ([.ref ox, .int p0, .int p1, .int p2, .int p3, .int p4])).length) Slot.unset).toArray = ls at hl ⊢
  have hl : lv_has ls 6 [(0, .ref ox), (1, .int p0), (2, .int p1), (3, .int p2), (4, .int p3), (5, .int p4)] := hl
  refine lv_aload_n hx hb dX11_tell_0 rfl (lv_at hl 0 rfl) ?_
  refine lv_iload_n hx hb dX11_tell_1 rfl (lv_at hl 1 rfl) ?_
  have hPc := hP.sub (ws' := [(ox, .inr (11, [.ref a11_reader, .ref a11_printed, .int 0, .ref a11_solver, .ref a11_ways, .ref a11_told, .ref a11_found, .ref a11_replies, .ref a11_trial, .ref a11_results, .ref a11_probe, .ref a11_sum, .ref a11_whole, .ref a11_game, .int 0, .int (-1)]))]) [0] rfl
  have hDc := hD.sub (ws' := [(ox, .inr (11, [.ref a11_reader, .ref a11_printed, .int 0, .ref a11_solver, .ref a11_ways, .ref a11_told, .ref a11_found, .ref a11_replies, .ref a11_trial, .ref a11_results, .ref a11_probe, .ref a11_sum, .ref a11_whole, .ref a11_game, .int 0, .int (-1)]))]) [0] (by decide) rfl
  have hKc := hK.sub (tys' := []) [] rfl
  have hFc := va_free (wc := [(ox, .inr (11, [.ref a11_reader, .ref a11_printed, .int 0, .ref a11_solver, .ref a11_ways, .ref a11_told, .ref a11_found, .ref a11_replies, .ref a11_trial, .ref a11_results, .ref a11_probe, .ref a11_sum, .ref a11_whole, .ref a11_game, .int 0, .int (-1)]))]) hD hS hA [0] rfl
  refine va_calli (va_runV (As := [.int p0]) (rest := []) ⟨hx, hb, hml, hown, hts⟩ (c_X11_isPlaying l D _ ox a11_reader a11_printed a11_solver a11_ways a11_told a11_found a11_replies a11_trial a11_results a11_probe a11_sum a11_whole a11_game p0) (cwV 1 hts gX11_tell_X11_isPlaying rfl rfl rfl (by decide +kernel) ⟨Nat.le_of_ble_eq_true rfl, Nat.le_of_ble_eq_true rfl⟩) ⟨hm_blind, va_recv hKc hPc (ci := 11) (q0 := 0) rfl rfl, hm_pre hPc hKc hDc hE⟩ rfl rfl hl.1 rfl (lv_room (Nat.le_of_ble_eq_true rfl)) dX11_tell_2 ⟨(Nat.le_of_ble_eq_true rfl), (Nat.le_of_ble_eq_true rfl)⟩) hS (fun q _ h => hFc q h) hFc (fun rv1 u t H1 locs ht hvm hw hB hz1 hk1 hS => ?_)
  obtain ⟨hP1, hK1, hD1⟩ := hB
  rw [ht] at hP1
  have hK1 := va_K.moved hvm.symm hK1
  obtain ⟨hP, hD⟩ := va_join (wr := []) (w1 := [(ox, .inr (11, [.ref a11_reader, .ref a11_printed, .int 0, .ref a11_solver, .ref a11_ways, .ref a11_told, .ref a11_found, .ref a11_replies, .ref a11_trial, .ref a11_results, .ref a11_probe, .ref a11_sum, .ref a11_whole, .ref a11_game, .int 0, .int (-1)]))]) hP hD [0] [] rfl rfl (by decide) (by decide) hk1 hFc hP1 hD1
  have hK := (hK.sub (tys' := []) [] rfl).app hK1
  generalize H1 = H at hP hS ⊢
  have hP : va_P D vwCl [(ox, .inr (11, [.ref a11_reader, .ref a11_printed, .int 0, .ref a11_solver, .ref a11_ways, .ref a11_told, .ref a11_found, .ref a11_replies, .ref a11_trial, .ref a11_results, .ref a11_probe, .ref a11_sum, .ref a11_whole, .ref a11_game, .int 0, .int (-1)]))] H := hP
  have hD : va_D A [(ox, .inr (11, [.ref a11_reader, .ref a11_printed, .int 0, .ref a11_solver, .ref a11_ways, .ref a11_told, .ref a11_found, .ref a11_replies, .ref a11_trial, .ref a11_results, .ref a11_probe, .ref a11_sum, .ref a11_whole, .ref a11_game, .int 0, .int (-1)]))] := hD
  have hK : va_K D vwCl [] s := hK
  refine W.widen (k := 0) (n := 0) (by omega) (by omega) ?_
  obtain rfl : rv1 = 0 := hw
  refine lv_if_eq (tgt := 21) hx hb dX11_tell_5 (by decide) (fun _ => ?_) (fun c9 => absurd (by decide) c9)
  obtain ⟨sa, hstr⟩ := hXX.str_159
  exact vx_throwS (names := ["java/lang/RuntimeException", "java/lang/Exception"]) hx hb hlt hown (by decide) (by decide) (hts (.classLink RX11 157 "java/lang/IndexOutOfBoundsException") (by decide +kernel)) (hts (.initialized "java/lang/IndexOutOfBoundsException") (by decide +kernel)) hstr (vx_hat (fun w h => hts w (List.mem_cons_of_mem _ (List.mem_append_left _ (List.mem_append_right _ h)))) hm_bad_IOO (vx_c (va_Nw.use rfl hXX.cast_IOO) (vx_c (va_Nw.use rfl hXX.dec_R) (vx_c (va_Nw.use rfl hXX.dec_E) (vx_c (va_Nw.use rfl hXX.dec_T) vx_n))))) (by decide +kernel) hZU hZN hS (by rw [hml]; exact hl.1) dX11_tell_21 dX11_tell_24 dX11_tell_25 dX11_tell_27 dX11_tell_30 (fun x h => (hno x h).elim) (Nat.le_of_ble_eq_true rfl) (Nat.le_of_ble_eq_true rfl) (Nat.le_of_ble_eq_true rfl) (Nat.le_of_ble_eq_true rfl) hlocks (fun t hvm hz hk => ⟨(), trivial, ⟨rfl, hP.kept (fun k q hq => hk q.1 ((hP k q hq).lt)), va_K.moved hvm hK, hD⟩, Nat.le_trans hS.1 hz, fun q h1 h2 => (hk q (Nat.lt_of_lt_of_le h1 hS.1)).trans (hS.2.1 q h1 h2)⟩) hS.2.2 (Nat.le_of_ble_eq_true rfl) (Nat.le_of_ble_eq_true rfl)

set_option maxHeartbeats 1000000 in
set_option maxRecDepth 100000 in
/-- judge without a game -/
theorem x_X11_judge (l : Launch) (hlt : l.stackTraces = false) (D : va_G) (sz : Nat) (ox : Nat) (a11_reader : Nat) (a11_printed : Nat) (a11_solver : Nat) (a11_ways : Nat) (a11_told : Nat) (a11_found : Nat) (a11_replies : Nat) (a11_trial : Nat) (a11_results : Nat) (a11_probe : Nat) (a11_sum : Nat) (a11_whole : Nat) (a11_game : Nat) (p0 : Int32) : vx_Met l yX11_judge wsX11_judge ({ frames := 6, cells := 1, slots := 6, locals := 90 }) (va_Pc [.ref ox, .int p0] (hm_PX D [(ox, .inr (11, [.ref a11_reader, .ref a11_printed, .int 0, .ref a11_solver, .ref a11_ways, .ref a11_told, .ref a11_found, .ref a11_replies, .ref a11_trial, .ref a11_results, .ref a11_probe, .ref a11_sum, .ref a11_whole, .ref a11_game, .int 0, .int (-1)]))] [] sz)) (va_Qv (fun _ : Unit => False) (fun _ _ => True) (va_A [(ox, .inr (11, [.ref a11_reader, .ref a11_printed, .int 0, .ref a11_solver, .ref a11_ways, .ref a11_told, .ref a11_found, .ref a11_replies, .ref a11_trial, .ref a11_results, .ref a11_probe, .ref a11_sum, .ref a11_whole, .ref a11_game, .int 0, .int (-1)]))] sz)) (vx_X (fun _ : Unit => True) (fun E _ t => ((E = "java/lang/IllegalStateException" ∧ hm_jdg p0 = 2) ∨ (E = "java/lang/IllegalArgumentException" ∧ hm_jdg p0 = 1)) ∧ hm_B D (va_A [(ox, .inr (11, [.ref a11_reader, .ref a11_printed, .int 0, .ref a11_solver, .ref a11_ways, .ref a11_told, .ref a11_found, .ref a11_replies, .ref a11_trial, .ref a11_results, .ref a11_probe, .ref a11_sum, .ref a11_whole, .ref a11_game, .int 0, .int (-1)]))] sz) [(ox, .inr (11, [.ref a11_reader, .ref a11_printed, .int 0, .ref a11_solver, .ref a11_ways, .ref a11_told, .ref a11_found, .ref a11_replies, .ref a11_trial, .ref a11_results, .ref a11_probe, .ref a11_sum, .ref a11_whole, .ref a11_game, .int 0, .int (-1)]))] [] t) (va_A [(ox, .inr (11, [.ref a11_reader, .ref a11_printed, .int 0, .ref a11_solver, .ref a11_ways, .ref a11_told, .ref a11_found, .ref a11_replies, .ref a11_trial, .ref a11_results, .ref a11_probe, .ref a11_sum, .ref a11_whole, .ref a11_game, .int 0, .int (-1)]))] sz)) 1 6 (va_A [(ox, .inr (11, [.ref a11_reader, .ref a11_printed, .int 0, .ref a11_solver, .ref a11_ways, .ref a11_told, .ref a11_found, .ref a11_replies, .ref a11_trial, .ref a11_results, .ref a11_probe, .ref a11_sum, .ref a11_whole, .ref a11_game, .int 0, .int (-1)]))] sz) := by
  refine vx_ofW (cc := cX11_judge) (maxL := 3) (ret := none) (by decide) rfl ?_
  intro p e s m args below meth c s₁ B hml hno hv
  obtain ⟨rfl, ⟨hsz, hP, hK, hD0, hE⟩, hXX, hZU, hZN⟩ := hv
  have hx := B.exec
  have hb := B.bytes
  have hr := B.returns
  have hts := atoms_spec (ws := wsX11_judge) B.pre
  have hown : s.vm.findClass RX11 = some m.cls := findClass_of_methodNamed B.named
  have hlocks := B.notSynchronized
  subst hsz
  have hD := hD0.self (sz := s.heap.size)
  generalize hAe : va_A [(ox, .inr (11, [.ref a11_reader, .ref a11_printed, .int 0, .ref a11_solver, .ref a11_ways, .ref a11_told, .ref a11_found, .ref a11_replies, .ref a11_trial, .ref a11_results, .ref a11_probe, .ref a11_sum, .ref a11_whole, .ref a11_game, .int 0, .int (-1)]))] s.heap.size = A at hD hZU hZN ⊢
  have hA : ∀ q : Nat, s.heap.size ≤ q → A q := fun q h => by rw [← hAe]; exact Or.inr h
  have hS : va_S A s.heap s.heap [] := va_S.rf
  have hP : va_P D vwCl [(ox, .inr (11, [.ref a11_reader, .ref a11_printed, .int 0, .ref a11_solver, .ref a11_ways, .ref a11_told, .ref a11_found, .ref a11_replies, .ref a11_trial, .ref a11_results, .ref a11_probe, .ref a11_sum, .ref a11_whole, .ref a11_game, .int 0, .int (-1)]))] s.heap := hP
  have hl := lv_entry ([.ref ox, .int p0]) (n := 3) (Nat.le_of_ble_eq_true rfl)
  rw [lg_entry_eq]
  generalize (lg_sl ([.ref ox, .int p0]) ++ List.replicate (3 - (lg_sl ([.ref ox, .int p0])).length) Slot.unset).toArray = ls at hl ⊢
  have hl : lv_has ls 3 [(0, .ref ox), (1, .int p0)] := hl
  refine lv_iload_n hx hb dX11_judge_0 rfl (lv_at hl 1 rfl) ?_
  have hPc := hP.sub (ws' := []) [] rfl
  have hDc := hD.sub (ws' := []) [] (by decide) rfl
  have hKc := hK.sub (tys' := []) [] rfl
  have hFc := va_free (wc := []) hD hS hA [] rfl
  refine va_calli (va_runS (As := [.int p0]) (rest := []) ⟨hx, hb, hml, hown, hts⟩ (c_X11_isPlayer l D _ p0) (va_cwS 1 hts gX11_judge_X11_isPlayer rfl rfl rfl (by decide +kernel) ⟨Nat.le_of_ble_eq_true rfl, Nat.le_of_ble_eq_true rfl⟩) ⟨hm_blind, hm_pre hPc hKc hDc hE⟩ rfl rfl hl.1 rfl (lv_room (Nat.le_of_ble_eq_true rfl)) dX11_judge_1 ⟨(Nat.le_of_ble_eq_true rfl), (Nat.le_of_ble_eq_true rfl)⟩) hS (fun q _ h => hFc q h) hFc (fun rv1 u t H1 locs ht hvm hw hB hz1 hk1 hS => ?_)
  obtain ⟨hP1, hK1, hD1⟩ := hB
  rw [ht] at hP1
  have hK1 := va_K.moved hvm.symm hK1
  obtain ⟨hP, hD⟩ := va_join (wr := [(ox, .inr (11, [.ref a11_reader, .ref a11_printed, .int 0, .ref a11_solver, .ref a11_ways, .ref a11_told, .ref a11_found, .ref a11_replies, .ref a11_trial, .ref a11_results, .ref a11_probe, .ref a11_sum, .ref a11_whole, .ref a11_game, .int 0, .int (-1)]))]) (w1 := []) hP hD [] [0] rfl rfl (by decide) (by decide) hk1 hFc hP1 hD1
  have hK := (hK.sub (tys' := []) [] rfl).app hK1
  generalize H1 = H at hP hS ⊢
  have hP : va_P D vwCl [(ox, .inr (11, [.ref a11_reader, .ref a11_printed, .int 0, .ref a11_solver, .ref a11_ways, .ref a11_told, .ref a11_found, .ref a11_replies, .ref a11_trial, .ref a11_results, .ref a11_probe, .ref a11_sum, .ref a11_whole, .ref a11_game, .int 0, .int (-1)]))] H := hP
  have hD : va_D A [(ox, .inr (11, [.ref a11_reader, .ref a11_printed, .int 0, .ref a11_solver, .ref a11_ways, .ref a11_told, .ref a11_found, .ref a11_replies, .ref a11_trial, .ref a11_results, .ref a11_probe, .ref a11_sum, .ref a11_whole, .ref a11_game, .int 0, .int (-1)]))] := hD
  have hK : va_K D vwCl [] s := hK
  refine W.widen (k := 0) (n := 0) (by omega) (by omega) ?_
  obtain rfl : rv1 = (hm_ply p0) := hw
  by_cases hpl : p0 = 1 ∨ p0 = 2
  · have e1 : hm_ply p0 = 1 := by rcases hpl with rfl | rfl <;> decide
    have e2 : hm_jdg p0 = 2 := by rcases hpl with rfl | rfl <;> decide
    rw [e1]
    refine lv_if_ne (tgt := 17) hx hb dX11_judge_4 (by decide) (fun _ => ?_) (fun c9 => absurd c9 (by decide))
    refine lv_iload_n hx hb dX11_judge_17 rfl (lv_at hl 1 rfl) ?_
    refine lv_iconst (v := 1) hx hb dX11_judge_18 (by decide) ?_
    refine lv_isub hx hb dX11_judge_19 ?_
    refine lv_topi (fun z2 ez2 => ?_)
    refine lv_istore_n (lv' := [(2, .int z2), (0, .ref ox), (1, .int p0)]) hx hb dX11_judge_20 rfl hl (by decide) rfl (fun ls hl => ?_)
    refine lv_aload_n hx hb dX11_judge_21 rfl (lv_at hl 1 rfl) ?_
    refine va_get (D := D) (ci := 11) (v := .int 0) (C := RX11) (T := TX11) (N := 16) hx hb hts (by decide +kernel) hown hK hP 0 rfl rfl 14 (by decide) (hts (.fieldLink RX11 87 "HiddenMoves" "hasGame" "Z") (by decide +kernel)) (fun _ h9 => h9) rfl dX11_judge_22 ?_
    refine lv_if_eq (tgt := 36) hx hb dX11_judge_25 (by decide) (fun _ => ?_) (fun c9 => absurd (by decide) c9)
    obtain ⟨sa, hstr⟩ := hXX.str_223
    exact vx_throwS (names := ["java/lang/RuntimeException", "java/lang/Exception"]) hx hb hlt hown (by decide) (by decide) (hts (.classLink RX11 176 "java/lang/IllegalStateException") (by decide +kernel)) (hts (.initialized "java/lang/IllegalStateException") (by decide +kernel)) hstr (vx_hat (fun w h => hts w (List.mem_cons_of_mem _ (List.mem_append_right _ h))) hm_bad_ISE (vx_c (va_Nw.use rfl hXX.cast_ISE) (vx_c (va_Nw.use rfl hXX.dec_R) (vx_c (va_Nw.use rfl hXX.dec_E) (vx_c (va_Nw.use rfl hXX.dec_T) vx_n))))) (by decide +kernel) hZU hZN hS (by rw [hml]; exact hl.1) dX11_judge_36 dX11_judge_39 dX11_judge_40 dX11_judge_42 dX11_judge_45 (fun x h => (hno x h).elim) (Nat.le_of_ble_eq_true rfl) (Nat.le_of_ble_eq_true rfl) (Nat.le_of_ble_eq_true rfl) (Nat.le_of_ble_eq_true rfl) hlocks (fun t hvm hz hk => ⟨(), trivial, ⟨Or.inl ⟨rfl, e2⟩, hP.kept (fun k q hq => hk q.1 ((hP k q hq).lt)), va_K.moved hvm hK, hD⟩, Nat.le_trans hS.1 hz, fun q h1 h2 => (hk q (Nat.lt_of_lt_of_le h1 hS.1)).trans (hS.2.1 q h1 h2)⟩) hS.2.2 (Nat.le_of_ble_eq_true rfl) (Nat.le_of_ble_eq_true rfl)
  · have h1 : ¬ p0 = 1 := fun h => hpl (Or.inl h)
    have h2 : ¬ p0 = 2 := fun h => hpl (Or.inr h)
    have e1 : hm_ply p0 = 0 := (if_neg h1).trans (if_neg h2)
    have e2 : hm_jdg p0 = 1 := (if_neg h1).trans (if_neg h2)
    rw [e1]
    refine lv_if_ne (tgt := 17) hx hb dX11_judge_4 (by decide) (fun c9 => absurd c9 (by decide)) (fun _ => ?_)
    obtain ⟨sa, hstr⟩ := hXX.str_221
    exact vx_throwS (names := ["java/lang/RuntimeException", "java/lang/Exception"]) hx hb hlt hown (by decide) (by decide) (hts (.classLink RX11 164 "java/lang/IllegalArgumentException") (by decide +kernel)) (hts (.initialized "java/lang/IllegalArgumentException") (by decide +kernel)) hstr (vx_hat (fun w h => hts w (List.mem_cons_of_mem _ (List.mem_append_left _ (List.mem_append_right _ h)))) hm_bad_IAE (vx_c (va_Nw.use rfl hXX.cast_IAE) (vx_c (va_Nw.use rfl hXX.dec_R) (vx_c (va_Nw.use rfl hXX.dec_E) (vx_c (va_Nw.use rfl hXX.dec_T) vx_n))))) (by decide +kernel) hZU hZN hS (by rw [hml]; exact hl.1) dX11_judge_7 dX11_judge_10 dX11_judge_11 dX11_judge_13 dX11_judge_16 (fun x h => (hno x h).elim) (Nat.le_of_ble_eq_true rfl) (Nat.le_of_ble_eq_true rfl) (Nat.le_of_ble_eq_true rfl) (Nat.le_of_ble_eq_true rfl) hlocks (fun t hvm hz hk => ⟨(), trivial, ⟨Or.inr ⟨rfl, e2⟩, hP.kept (fun k q hq => hk q.1 ((hP k q hq).lt)), va_K.moved hvm hK, hD⟩, Nat.le_trans hS.1 hz, fun q h1 h2 => (hk q (Nat.lt_of_lt_of_le h1 hS.1)).trans (hS.2.1 q h1 h2)⟩) hS.2.2 (Nat.le_of_ble_eq_true rfl) (Nat.le_of_ble_eq_true rfl)
