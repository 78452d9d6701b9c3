set_option maxHeartbeats 1000000 in
set_option maxRecDepth 100000 in
/-- solve(x) of the law -/
theorem c_L_solve (l : Launch) (hlt : l.stackTraces = false) (D : va_G) (sz : Nat) (ox : Nat) (a11_reader : Nat) (a11_printed : Nat) (a11_solver : Nat) (a11_ways : Nat) (a11_told : Nat) (a11_found : Nat) (a11_replies : Nat) (a11_trial : Nat) (a11_results : Nat) (a11_probe : Nat) (a11_sum : Nat) (a11_whole : Nat) (a11_game : Nat) : Met l yL_solve wsL_solve ({ frames := 7, cells := 1, slots := 6, locals := 110 }) (va_Pc [.ref ox] (hm_PX D [(ox, .inr (11, [.ref a11_reader, .ref a11_printed, .int 0, .ref a11_solver, .ref a11_ways, .ref a11_told, .ref a11_found, .ref a11_replies, .ref a11_trial, .ref a11_results, .ref a11_probe, .ref a11_sum, .ref a11_whole, .ref a11_game, .int 0, .int (-1)]))] [] sz)) (va_Qi (fun (r : Int32) (_ : Unit) => r = 1) (fun _ t => hm_B D (va_A [(ox, .inr (11, [.ref a11_reader, .ref a11_printed, .int 0, .ref a11_solver, .ref a11_ways, .ref a11_told, .ref a11_found, .ref a11_replies, .ref a11_trial, .ref a11_results, .ref a11_probe, .ref a11_sum, .ref a11_whole, .ref a11_game, .int 0, .int (-1)]))] sz) [(ox, .inr (11, [.ref a11_reader, .ref a11_printed, .int 0, .ref a11_solver, .ref a11_ways, .ref a11_told, .ref a11_found, .ref a11_replies, .ref a11_trial, .ref a11_results, .ref a11_probe, .ref a11_sum, .ref a11_whole, .ref a11_game, .int 0, .int (-1)]))] [] t) (va_A [(ox, .inr (11, [.ref a11_reader, .ref a11_printed, .int 0, .ref a11_solver, .ref a11_ways, .ref a11_told, .ref a11_found, .ref a11_replies, .ref a11_trial, .ref a11_results, .ref a11_probe, .ref a11_sum, .ref a11_whole, .ref a11_game, .int 0, .int (-1)]))] sz)) 1 6 (va_A [(ox, .inr (11, [.ref a11_reader, .ref a11_printed, .int 0, .ref a11_solver, .ref a11_ways, .ref a11_told, .ref a11_found, .ref a11_replies, .ref a11_trial, .ref a11_results, .ref a11_probe, .ref a11_sum, .ref a11_whole, .ref a11_game, .int 0, .int (-1)]))] sz) := by
  refine va_MetW (cc := cL_solve) (maxL := 2) (ret := (some .int)) (hh := [(0, 4, 7, 20)]) (by decide) rfl ?_
  intro p e s m args below meth c s₁ B hml hv
  obtain ⟨rfl, ⟨hsz, hP, hK, hD0, hE⟩, hXX, hZU, hZN⟩ := hv
  have hx := B.exec
  have hb := B.bytes
  have hr := B.returns
  have hts := atoms_spec (ws := wsL_solve) B.pre
  have hown : s.vm.findClass RL = some m.cls := findClass_of_methodNamed B.named
  have hlocks := B.notSynchronized
  subst hsz
  have hD := hD0.self (sz := s.heap.size)
  generalize hAe : va_A [(ox, .inr (11, [.ref a11_reader, .ref a11_printed, .int 0, .ref a11_solver, .ref a11_ways, .ref a11_told, .ref a11_found, .ref a11_replies, .ref a11_trial, .ref a11_results, .ref a11_probe, .ref a11_sum, .ref a11_whole, .ref a11_game, .int 0, .int (-1)]))] s.heap.size = A at hD hZU hZN ⊢
  have hA : ∀ q : Nat, s.heap.size ≤ q → A q := fun q h => by rw [← hAe]; exact Or.inr h
  have hS : va_S A s.heap s.heap [] := va_S.rf
  have hP : va_P D vwCl [(ox, .inr (11, [.ref a11_reader, .ref a11_printed, .int 0, .ref a11_solver, .ref a11_ways, .ref a11_told, .ref a11_found, .ref a11_replies, .ref a11_trial, .ref a11_results, .ref a11_probe, .ref a11_sum, .ref a11_whole, .ref a11_game, .int 0, .int (-1)]))] s.heap := hP
  have hl := lv_entry ([.ref ox]) (n := 2) (Nat.le_of_ble_eq_true rfl)
  rw [lg_entry_eq]
  generalize (lg_sl ([.ref ox]) ++ List.replicate (2 - (lg_sl ([.ref ox])).length) Slot.unset).toArray = ls at hl ⊢
  have hl : lv_has ls 2 [(0, .ref ox)] := hl
  have htab := vx_table (x := yL_solve) B (hts _ List.mem_cons_self)
  refine lv_aload_n hx hb dL_solve_0 rfl (lv_at hl 0 rfl) ?_
  have hPc := hP
  have hFc := va_free (wc := [(ox, .inr (11, [.ref a11_reader, .ref a11_printed, .int 0, .ref a11_solver, .ref a11_ways, .ref a11_told, .ref a11_found, .ref a11_replies, .ref a11_trial, .ref a11_results, .ref a11_probe, .ref a11_sum, .ref a11_whole, .ref a11_game, .int 0, .int (-1)]))]) hD hS hA [0] rfl
  refine vx_callv (vx_runV (As := []) (rest := []) ⟨hx, hb, hml, hown, hts⟩ (x_X11_solve l hlt D _ ox a11_reader a11_printed a11_solver a11_ways a11_told a11_found a11_replies a11_trial a11_results a11_probe a11_sum a11_whole a11_game) (cwV 0 hts gL_solve_X11_solve rfl rfl rfl (by decide +kernel) ⟨Nat.le_of_ble_eq_true rfl, Nat.le_of_ble_eq_true rfl⟩) ⟨hm_blindX, va_recv hK hP (ci := 11) (q0 := 0) rfl rfl, hm_preX hP hK hD hE hXX hZU hZN hFc⟩ rfl rfl hl.1 rfl (lv_room (Nat.le_of_ble_eq_true rfl)) dL_solve_1 ⟨Nat.le_of_ble_eq_true rfl, Nat.le_of_ble_eq_true rfl⟩) hS (fun q _ h => hFc q h) hFc (fun q _ h => hFc q h) (fun E ce q9 u t H1 locs ht hvm hpx hBX hz1 hk1 hS hcell hcv hcls => ?_) (fun u t H1 locs ht hvm hw hB hz1 hk1 hS => hw.elim)
  obtain ⟨hEE, hP1, hK1, hD1⟩ := hBX
  rw [ht] at hP1
  have hK := va_K.moved hvm.symm hK1
  have hP : va_P D vwCl [(ox, .inr (11, [.ref a11_reader, .ref a11_printed, .int 0, .ref a11_solver, .ref a11_ways, .ref a11_told, .ref a11_found, .ref a11_replies, .ref a11_trial, .ref a11_results, .ref a11_probe, .ref a11_sum, .ref a11_whole, .ref a11_game, .int 0, .int (-1)]))] H1 := hP1
  have hD : va_D A [(ox, .inr (11, [.ref a11_reader, .ref a11_printed, .int 0, .ref a11_solver, .ref a11_ways, .ref a11_told, .ref a11_found, .ref a11_replies, .ref a11_trial, .ref a11_results, .ref a11_probe, .ref a11_sum, .ref a11_whole, .ref a11_game, .int 0, .int (-1)]))] := hD1.weaken (fun k q _ h => hFc q.1 h)
  refine vx_widen (k := 1) (n := 6) (by omega) (by omega) ?_
  obtain rfl := hEE
  refine vx_catch (name := "java/lang/IllegalStateException") hown [] ⟨0, 4, 7, 20⟩ [] (by rw [htab]; rfl) (fun z h => nomatch h) (by decide) (by decide) (hts (.classLink RL 20 "java/lang/IllegalStateException") (by decide +kernel)) (va_Nw.use rfl hXX.cast_ISE) hcell hcv hcls ?_
  refine lv_astore_n (lv' := [(1, .ref q9), (0, .ref ox)]) hx hb dL_solve_7 rfl hl (by decide) rfl (fun ls hl => ?_)
  refine lv_iconst (v := 1) hx hb dL_solve_8 (by decide) ?_
  have hP9 := hP.sub (ws' := [(ox, .inr (11, [.ref a11_reader, .ref a11_printed, .int 0, .ref a11_solver, .ref a11_ways, .ref a11_told, .ref a11_found, .ref a11_replies, .ref a11_trial, .ref a11_results, .ref a11_probe, .ref a11_sum, .ref a11_whole, .ref a11_game, .int 0, .int (-1)]))]) [0] rfl
  have hD9 := hD.sub (ws' := [(ox, .inr (11, [.ref a11_reader, .ref a11_printed, .int 0, .ref a11_solver, .ref a11_ways, .ref a11_told, .ref a11_found, .ref a11_replies, .ref a11_trial, .ref a11_results, .ref a11_probe, .ref a11_sum, .ref a11_whole, .ref a11_game, .int 0, .int (-1)]))]) [0] (by decide) rfl
  have hK9 := hK.sub (tys' := []) [] rfl
  exact W.iret (v := 1) hx hb hr (fun t ht hW => ⟨⟨1, (), rfl, rfl, by rw [ht]; exact hP9, va_K.moved hW.alike hK9, hD9⟩, hS.F ht⟩) hS.2.2 dL_solve_9

set_option maxHeartbeats 1000000 in
set_option maxRecDepth 100000 in
/-- expect(x) of the law -/
theorem c_L_expect (l : Launch) (hlt : l.stackTraces = false) (D : va_G) (sz : Nat) (ox : Nat) (a11_reader : Nat) (a11_printed : Nat) (a11_solver : Nat) (a11_ways : Nat) (a11_told : Nat) (a11_found : Nat) (a11_replies : Nat) (a11_trial : Nat) (a11_results : Nat) (a11_probe : Nat) (a11_sum : Nat) (a11_whole : Nat) (a11_game : Nat) : Met l yL_expect wsL_expect ({ frames := 7, cells := 1, slots := 6, locals := 110 }) (va_Pc [.ref ox] (hm_PX D [(ox, .inr (11, [.ref a11_reader, .ref a11_printed, .int 0, .ref a11_solver, .ref a11_ways, .ref a11_told, .ref a11_found, .ref a11_replies, .ref a11_trial, .ref a11_results, .ref a11_probe, .ref a11_sum, .ref a11_whole, .ref a11_game, .int 0, .int (-1)]))] [] sz)) (va_Qi (fun (r : Int32) (_ : Unit) => r = 1) (fun _ t => hm_B D (va_A [(ox, .inr (11, [.ref a11_reader, .ref a11_printed, .int 0, .ref a11_solver, .ref a11_ways, .ref a11_told, .ref a11_found, .ref a11_replies, .ref a11_trial, .ref a11_results, .ref a11_probe, .ref a11_sum, .ref a11_whole, .ref a11_game, .int 0, .int (-1)]))] sz) [(ox, .inr (11, [.ref a11_reader, .ref a11_printed, .int 0, .ref a11_solver, .ref a11_ways, .ref a11_told, .ref a11_found, .ref a11_replies, .ref a11_trial, .ref a11_results, .ref a11_probe, .ref a11_sum, .ref a11_whole, .ref a11_game, .int 0, .int (-1)]))] [] t) (va_A [(ox, .inr (11, [.ref a11_reader, .ref a11_printed, .int 0, .ref a11_solver, .ref a11_ways, .ref a11_told, .ref a11_found, .ref a11_replies, .ref a11_trial, .ref a11_results, .ref a11_probe, .ref a11_sum, .ref a11_whole, .ref a11_game, .int 0, .int (-1)]))] sz)) 1 6 (va_A [(ox, .inr (11, [.ref a11_reader, .ref a11_printed, .int 0, .ref a11_solver, .ref a11_ways, .ref a11_told, .ref a11_found, .ref a11_replies, .ref a11_trial, .ref a11_results, .ref a11_probe, .ref a11_sum, .ref a11_whole, .ref a11_game, .int 0, .int (-1)]))] sz) := by
  refine va_MetW (cc := cL_expect) (maxL := 2) (ret := (some .int)) (hh := [(0, 4, 7, 20)]) (by decide) rfl ?_
  intro p e s m args below meth c s₁ B hml hv
  obtain ⟨rfl, ⟨hsz, hP, hK, hD0, hE⟩, hXX, hZU, hZN⟩ := hv
  have hx := B.exec
  have hb := B.bytes
  have hr := B.returns
  have hts := atoms_spec (ws := wsL_expect) B.pre
  have hown : s.vm.findClass RL = some m.cls := findClass_of_methodNamed B.named
  have hlocks := B.notSynchronized
  subst hsz
  have hD := hD0.self (sz := s.heap.size)
  generalize hAe : va_A [(ox, .inr (11, [.ref a11_reader, .ref a11_printed, .int 0, .ref a11_solver, .ref a11_ways, .ref a11_told, .ref a11_found, .ref a11_replies, .ref a11_trial, .ref a11_results, .ref a11_probe, .ref a11_sum, .ref a11_whole, .ref a11_game, .int 0, .int (-1)]))] s.heap.size = A at hD hZU hZN ⊢
  have hA : ∀ q : Nat, s.heap.size ≤ q → A q := fun q h => by rw [← hAe]; exact Or.inr h
  have hS : va_S A s.heap s.heap [] := va_S.rf
  have hP : va_P D vwCl [(ox, .inr (11, [.ref a11_reader, .ref a11_printed, .int 0, .ref a11_solver, .ref a11_ways, .ref a11_told, .ref a11_found, .ref a11_replies, .ref a11_trial, .ref a11_results, .ref a11_probe, .ref a11_sum, .ref a11_whole, .ref a11_game, .int 0, .int (-1)]))] s.heap := hP
  have hl := lv_entry ([.ref ox]) (n := 2) (Nat.le_of_ble_eq_true rfl)
  rw [lg_entry_eq]
  generalize (lg_sl ([.ref ox]) ++ List.replicate (2 - (lg_sl ([.ref ox])).length) Slot.unset).toArray = ls at hl ⊢
  have hl : lv_has ls 2 [(0, .ref ox)] := hl
  have htab := vx_table (x := yL_expect) B (hts _ List.mem_cons_self)
  refine lv_aload_n hx hb dL_expect_0 rfl (lv_at hl 0 rfl) ?_
  have hPc := hP
  have hFc := va_free (wc := [(ox, .inr (11, [.ref a11_reader, .ref a11_printed, .int 0, .ref a11_solver, .ref a11_ways, .ref a11_told, .ref a11_found, .ref a11_replies, .ref a11_trial, .ref a11_results, .ref a11_probe, .ref a11_sum, .ref a11_whole, .ref a11_game, .int 0, .int (-1)]))]) hD hS hA [0] rfl
  refine vx_callv (vx_runV (As := []) (rest := []) ⟨hx, hb, hml, hown, hts⟩ (x_X11_expect l hlt D _ ox a11_reader a11_printed a11_solver a11_ways a11_told a11_found a11_replies a11_trial a11_results a11_probe a11_sum a11_whole a11_game) (cwV 0 hts gL_expect_X11_expect rfl rfl rfl (by decide +kernel) ⟨Nat.le_of_ble_eq_true rfl, Nat.le_of_ble_eq_true rfl⟩) ⟨hm_blindX, va_recv hK hP (ci := 11) (q0 := 0) rfl rfl, hm_preX hP hK hD hE hXX hZU hZN hFc⟩ rfl rfl hl.1 rfl (lv_room (Nat.le_of_ble_eq_true rfl)) dL_expect_1 ⟨Nat.le_of_ble_eq_true rfl, Nat.le_of_ble_eq_true rfl⟩) hS (fun q _ h => hFc q h) hFc (fun q _ h => hFc q h) (fun E ce q9 u t H1 locs ht hvm hpx hBX hz1 hk1 hS hcell hcv hcls => ?_) (fun u t H1 locs ht hvm hw hB hz1 hk1 hS => hw.elim)
  obtain ⟨hEE, hP1, hK1, hD1⟩ := hBX
  rw [ht] at hP1
  have hK := va_K.moved hvm.symm hK1
  have hP : va_P D vwCl [(ox, .inr (11, [.ref a11_reader, .ref a11_printed, .int 0, .ref a11_solver, .ref a11_ways, .ref a11_told, .ref a11_found, .ref a11_replies, .ref a11_trial, .ref a11_results, .ref a11_probe, .ref a11_sum, .ref a11_whole, .ref a11_game, .int 0, .int (-1)]))] H1 := hP1
  have hD : va_D A [(ox, .inr (11, [.ref a11_reader, .ref a11_printed, .int 0, .ref a11_solver, .ref a11_ways, .ref a11_told, .ref a11_found, .ref a11_replies, .ref a11_trial, .ref a11_results, .ref a11_probe, .ref a11_sum, .ref a11_whole, .ref a11_game, .int 0, .int (-1)]))] := hD1.weaken (fun k q _ h => hFc q.1 h)
  refine vx_widen (k := 1) (n := 6) (by omega) (by omega) ?_
  obtain rfl := hEE
  refine vx_catch (name := "java/lang/IllegalStateException") hown [] ⟨0, 4, 7, 20⟩ [] (by rw [htab]; rfl) (fun z h => nomatch h) (by decide) (by decide) (hts (.classLink RL 20 "java/lang/IllegalStateException") (by decide +kernel)) (va_Nw.use rfl hXX.cast_ISE) hcell hcv hcls ?_
  refine lv_astore_n (lv' := [(1, .ref q9), (0, .ref ox)]) hx hb dL_expect_7 rfl hl (by decide) rfl (fun ls hl => ?_)
  refine lv_iconst (v := 1) hx hb dL_expect_8 (by decide) ?_
  have hP9 := hP.sub (ws' := [(ox, .inr (11, [.ref a11_reader, .ref a11_printed, .int 0, .ref a11_solver, .ref a11_ways, .ref a11_told, .ref a11_found, .ref a11_replies, .ref a11_trial, .ref a11_results, .ref a11_probe, .ref a11_sum, .ref a11_whole, .ref a11_game, .int 0, .int (-1)]))]) [0] rfl
  have hD9 := hD.sub (ws' := [(ox, .inr (11, [.ref a11_reader, .ref a11_printed, .int 0, .ref a11_solver, .ref a11_ways, .ref a11_told, .ref a11_found, .ref a11_replies, .ref a11_trial, .ref a11_results, .ref a11_probe, .ref a11_sum, .ref a11_whole, .ref a11_game, .int 0, .int (-1)]))]) [0] (by decide) rfl
  have hK9 := hK.sub (tys' := []) [] rfl
  exact W.iret (v := 1) hx hb hr (fun t ht hW => ⟨⟨1, (), rfl, rfl, by rw [ht]; exact hP9, va_K.moved hW.alike hK9, hD9⟩, hS.F ht⟩) hS.2.2 dL_expect_9

set_option maxHeartbeats 1000000 in
set_option maxRecDepth 100000 in
/-- tell(x, ..) of the law -/
theorem c_L_tell (l : Launch) (hlt : l.stackTraces = false) (D : va_G) (sz : Nat) (ox : Nat) (a11_reader : Nat) (a11_printed : Nat) (a11_solver : Nat) (a11_ways : Nat) (a11_told : Nat) (a11_found : Nat) (a11_replies : Nat) (a11_trial : Nat) (a11_results : Nat) (a11_probe : Nat) (a11_sum : Nat) (a11_whole : Nat) (a11_game : Nat) (p0 : Int32) (p1 : Int32) (p2 : Int32) (p3 : Int32) (p4 : Int32) : Met l yL_tell wsL_tell ({ frames := 7, cells := 1, slots := 6, locals := 115 }) (va_Pc [.ref ox, .int p0, .int p1, .int p2, .int p3, .int p4] (hm_PX D [(ox, .inr (11, [.ref a11_reader, .ref a11_printed, .int 0, .ref a11_solver, .ref a11_ways, .ref a11_told, .ref a11_found, .ref a11_replies, .ref a11_trial, .ref a11_results, .ref a11_probe, .ref a11_sum, .ref a11_whole, .ref a11_game, .int 0, .int (-1)]))] [] sz)) (va_Qi (fun (r : Int32) (_ : Unit) => r = 1) (fun _ t => hm_B D (va_A [(ox, .inr (11, [.ref a11_reader, .ref a11_printed, .int 0, .ref a11_solver, .ref a11_ways, .ref a11_told, .ref a11_found, .ref a11_replies, .ref a11_trial, .ref a11_results, .ref a11_probe, .ref a11_sum, .ref a11_whole, .ref a11_game, .int 0, .int (-1)]))] sz) [(ox, .inr (11, [.ref a11_reader, .ref a11_printed, .int 0, .ref a11_solver, .ref a11_ways, .ref a11_told, .ref a11_found, .ref a11_replies, .ref a11_trial, .ref a11_results, .ref a11_probe, .ref a11_sum, .ref a11_whole, .ref a11_game, .int 0, .int (-1)]))] [] t) (va_A [(ox, .inr (11, [.ref a11_reader, .ref a11_printed, .int 0, .ref a11_solver, .ref a11_ways, .ref a11_told, .ref a11_found, .ref a11_replies, .ref a11_trial, .ref a11_results, .ref a11_probe, .ref a11_sum, .ref a11_whole, .ref a11_game, .int 0, .int (-1)]))] sz)) 1 6 (va_A [(ox, .inr (11, [.ref a11_reader, .ref a11_printed, .int 0, .ref a11_solver, .ref a11_ways, .ref a11_told, .ref a11_found, .ref a11_replies, .ref a11_trial, .ref a11_results, .ref a11_probe, .ref a11_sum, .ref a11_whole, .ref a11_game, .int 0, .int (-1)]))] sz) := by
  refine va_MetW (cc := cL_tell) (maxL := 7) (ret := (some .int)) (hh := [(0, 11, 14, 13), (0, 11, 18, 15)]) (by decide) rfl ?_
  intro p e s m args below meth c s₁ B hml hv
  obtain ⟨rfl, ⟨hsz, hP, hK, hD0, hE⟩, hXX, hZU, hZN⟩ := hv
  have hx := B.exec
  have hb := B.bytes
  have hr := B.returns
  have hts := atoms_spec (ws := wsL_tell) B.pre
  have hown : s.vm.findClass RL = some m.cls := findClass_of_methodNamed B.named
  have hlocks := B.notSynchronized
  subst hsz
  have hD := hD0.self (sz := s.heap.size)
  generalize hAe : va_A [(ox, .inr (11, [.ref a11_reader, .ref a11_printed, .int 0, .ref a11_solver, .ref a11_ways, .ref a11_told, .ref a11_found, .ref a11_replies, .ref a11_trial, .ref a11_results, .ref a11_probe, .ref a11_sum, .ref a11_whole, .ref a11_game, .int 0, .int (-1)]))] s.heap.size = A at hD hZU hZN ⊢
  have hA : ∀ q : Nat, s.heap.size ≤ q → A q := fun q h => by rw [← hAe]; exact Or.inr h
  have hS : va_S A s.heap s.heap [] := va_S.rf
  have hP : va_P D vwCl [(ox, .inr (11, [.ref a11_reader, .ref a11_printed, .int 0, .ref a11_solver, .ref a11_ways, .ref a11_told, .ref a11_found, .ref a11_replies, .ref a11_trial, .ref a11_results, .ref a11_probe, .ref a11_sum, .ref a11_whole, .ref a11_game, .int 0, .int (-1)]))] s.heap := hP
  have hl := lv_entry ([.ref ox, .int p0, .int p1, .int p2, .int p3, .int p4]) (n := 7) (Nat.le_of_ble_eq_true rfl)
  rw [lg_entry_eq]
  generalize (lg_sl ([.ref ox, .int p0, .int p1, .int p2, .int p3, .int p4]) ++ List.replicate (7 - (lg_sl ([.ref ox, .int p0, .int p1, .int p2, .int p3, .int p4])).length) Slot.unset).toArray = ls at hl ⊢
  have hl : lv_has ls 7 [(0, .ref ox), (1, .int p0), (2, .int p1), (3, .int p2), (4, .int p3), (5, .int p4)] := hl
  have htab := vx_table (x := yL_tell) B (hts _ List.mem_cons_self)
  refine lv_aload_n hx hb dL_tell_0 rfl (lv_at hl 0 rfl) ?_
  refine lv_iload_n hx hb dL_tell_1 rfl (lv_at hl 1 rfl) ?_
  refine lv_iload_n hx hb dL_tell_2 rfl (lv_at hl 2 rfl) ?_
  refine lv_iload_n hx hb dL_tell_3 rfl (lv_at hl 3 rfl) ?_
  refine lv_iload hx hb dL_tell_4 (lv_at hl 4 rfl) ?_
  refine lv_iload hx hb dL_tell_6 (lv_at hl 5 rfl) ?_
  have hPc := hP
  have hFc := va_free (wc := [(ox, .inr (11, [.ref a11_reader, .ref a11_printed, .int 0, .ref a11_solver, .ref a11_ways, .ref a11_told, .ref a11_found, .ref a11_replies, .ref a11_trial, .ref a11_results, .ref a11_probe, .ref a11_sum, .ref a11_whole, .ref a11_game, .int 0, .int (-1)]))]) hD hS hA [0] rfl
  refine vx_callv (vx_runV (As := [.int p0, .int p1, .int p2, .int p3, .int p4]) (rest := []) ⟨hx, hb, hml, hown, hts⟩ (x_X11_tell l hlt D _ ox a11_reader a11_printed a11_solver a11_ways a11_told a11_found a11_replies a11_trial a11_results a11_probe a11_sum a11_whole a11_game p0 p1 p2 p3 p4) (cwV 5 hts gL_tell_X11_tell rfl rfl rfl (by decide +kernel) ⟨Nat.le_of_ble_eq_true rfl, Nat.le_of_ble_eq_true rfl⟩) ⟨hm_blindX, va_recv hK hP (ci := 11) (q0 := 0) rfl rfl, hm_preX hP hK hD hE hXX hZU hZN hFc⟩ rfl rfl hl.1 rfl (lv_room (Nat.le_of_ble_eq_true rfl)) dL_tell_8 ⟨Nat.le_of_ble_eq_true rfl, Nat.le_of_ble_eq_true rfl⟩) hS (fun q _ h => hFc q h) hFc (fun q _ h => hFc q h) (fun E ce q9 u t H1 locs ht hvm hpx hBX hz1 hk1 hS hcell hcv hcls => ?_) (fun u t H1 locs ht hvm hw hB hz1 hk1 hS => hw.elim)
  obtain ⟨hEE, hP1, hK1, hD1⟩ := hBX
  rw [ht] at hP1
  have hK := va_K.moved hvm.symm hK1
  have hP : va_P D vwCl [(ox, .inr (11, [.ref a11_reader, .ref a11_printed, .int 0, .ref a11_solver, .ref a11_ways, .ref a11_told, .ref a11_found, .ref a11_replies, .ref a11_trial, .ref a11_results, .ref a11_probe, .ref a11_sum, .ref a11_whole, .ref a11_game, .int 0, .int (-1)]))] H1 := hP1
  have hD : va_D A [(ox, .inr (11, [.ref a11_reader, .ref a11_printed, .int 0, .ref a11_solver, .ref a11_ways, .ref a11_told, .ref a11_found, .ref a11_replies, .ref a11_trial, .ref a11_results, .ref a11_probe, .ref a11_sum, .ref a11_whole, .ref a11_game, .int 0, .int (-1)]))] := hD1.weaken (fun k q _ h => hFc q.1 h)
  refine vx_widen (k := 1) (n := 6) (by omega) (by omega) ?_
  obtain rfl := hEE
  refine vx_catch (name := "java/lang/IndexOutOfBoundsException") hown [] ⟨0, 11, 14, 13⟩ [⟨0, 11, 18, 15⟩] (by rw [htab]; rfl) (fun z h => nomatch h) (by decide) (by decide) (hts (.classLink RL 13 "java/lang/IndexOutOfBoundsException") (by decide +kernel)) (va_Nw.use rfl hXX.cast_IOO) hcell hcv hcls ?_
  refine lv_astore (lv' := [(6, .ref q9), (0, .ref ox), (1, .int p0), (2, .int p1), (3, .int p2), (4, .int p3), (5, .int p4)]) hx hb dL_tell_14 hl (by decide) rfl (fun ls hl => ?_)
  refine lv_iconst (v := 1) hx hb dL_tell_16 (by decide) ?_
  have hP9 := hP.sub (ws' := [(ox, .inr (11, [.ref a11_reader, .ref a11_printed, .int 0, .ref a11_solver, .ref a11_ways, .ref a11_told, .ref a11_found, .ref a11_replies, .ref a11_trial, .ref a11_results, .ref a11_probe, .ref a11_sum, .ref a11_whole, .ref a11_game, .int 0, .int (-1)]))]) [0] rfl
  have hD9 := hD.sub (ws' := [(ox, .inr (11, [.ref a11_reader, .ref a11_printed, .int 0, .ref a11_solver, .ref a11_ways, .ref a11_told, .ref a11_found, .ref a11_replies, .ref a11_trial, .ref a11_results, .ref a11_probe, .ref a11_sum, .ref a11_whole, .ref a11_game, .int 0, .int (-1)]))]) [0] (by decide) rfl
  have hK9 := hK.sub (tys' := []) [] rfl
  exact W.iret (v := 1) hx hb hr (fun t ht hW => ⟨⟨1, (), rfl, rfl, by rw [ht]; exact hP9, va_K.moved hW.alike hK9, hD9⟩, hS.F ht⟩) hS.2.2 dL_tell_17

set_option maxHeartbeats 1000000 in
set_option maxRecDepth 100000 in
/-- judge(x, p) of the law -/
theorem c_L_judge (l : Launch) (hlt : l.stackTraces = false) (D : va_G) (sz : Nat) (ox : Nat) (a11_reader : Nat) (a11_printed : Nat) (a11_solver : Nat) (a11_ways : Nat) (a11_told : Nat) (a11_found : Nat) (a11_replies : Nat) (a11_trial : Nat) (a11_results : Nat) (a11_probe : Nat) (a11_sum : Nat) (a11_whole : Nat) (a11_game : Nat) (p0 : Int32) : Met l yL_judge wsL_judge ({ frames := 7, cells := 1, slots := 6, locals := 112 }) (va_Pc [.ref ox, .int p0] (hm_PX D [(ox, .inr (11, [.ref a11_reader, .ref a11_printed, .int 0, .ref a11_solver, .ref a11_ways, .ref a11_told, .ref a11_found, .ref a11_replies, .ref a11_trial, .ref a11_results, .ref a11_probe, .ref a11_sum, .ref a11_whole, .ref a11_game, .int 0, .int (-1)]))] [] sz)) (va_Qi (fun (r : Int32) (_ : Unit) => r = (hm_jdg p0)) (fun _ t => hm_B D (va_A [(ox, .inr (11, [.ref a11_reader, .ref a11_printed, .int 0, .ref a11_solver, .ref a11_ways, .ref a11_told, .ref a11_found, .ref a11_replies, .ref a11_trial, .ref a11_results, .ref a11_probe, .ref a11_sum, .ref a11_whole, .ref a11_game, .int 0, .int (-1)]))] sz) [(ox, .inr (11, [.ref a11_reader, .ref a11_printed, .int 0, .ref a11_solver, .ref a11_ways, .ref a11_told, .ref a11_found, .ref a11_replies, .ref a11_trial, .ref a11_results, .ref a11_probe, .ref a11_sum, .ref a11_whole, .ref a11_game, .int 0, .int (-1)]))] [] t) (va_A [(ox, .inr (11, [.ref a11_reader, .ref a11_printed, .int 0, .ref a11_solver, .ref a11_ways, .ref a11_told, .ref a11_found, .ref a11_replies, .ref a11_trial, .ref a11_results, .ref a11_probe, .ref a11_sum, .ref a11_whole, .ref a11_game, .int 0, .int (-1)]))] sz)) 1 6 (va_A [(ox, .inr (11, [.ref a11_reader, .ref a11_printed, .int 0, .ref a11_solver, .ref a11_ways, .ref a11_told, .ref a11_found, .ref a11_replies, .ref a11_trial, .ref a11_results, .ref a11_probe, .ref a11_sum, .ref a11_whole, .ref a11_game, .int 0, .int (-1)]))] sz) := by
  refine va_MetW (cc := cL_judge) (maxL := 3) (ret := (some .int)) (hh := [(0, 5, 8, 15), (0, 5, 11, 20)]) (by decide) rfl ?_
  intro p e s m args below meth c s₁ B hml hv
  obtain ⟨rfl, ⟨hsz, hP, hK, hD0, hE⟩, hXX, hZU, hZN⟩ := hv
  have hx := B.exec
  have hb := B.bytes
  have hr := B.returns
  have hts := atoms_spec (ws := wsL_judge) B.pre
  have hown : s.vm.findClass RL = some m.cls := findClass_of_methodNamed B.named
  have hlocks := B.notSynchronized
  subst hsz
  have hD := hD0.self (sz := s.heap.size)
  generalize hAe : va_A [(ox, .inr (11, [.ref a11_reader, .ref a11_printed, .int 0, .ref a11_solver, .ref a11_ways, .ref a11_told, .ref a11_found, .ref a11_replies, .ref a11_trial, .ref a11_results, .ref a11_probe, .ref a11_sum, .ref a11_whole, .ref a11_game, .int 0, .int (-1)]))] s.heap.size = A at hD hZU hZN ⊢
  have hA : ∀ q : Nat, s.heap.size ≤ q → A q := fun q h => by rw [← hAe]; exact Or.inr h
  have hS : va_S A s.heap s.heap [] := va_S.rf
  have hP : va_P D vwCl [(ox, .inr (11, [.ref a11_reader, .ref a11_printed, .int 0, .ref a11_solver, .ref a11_ways, .ref a11_told, .ref a11_found, .ref a11_replies, .ref a11_trial, .ref a11_results, .ref a11_probe, .ref a11_sum, .ref a11_whole, .ref a11_game, .int 0, .int (-1)]))] s.heap := hP
  have hl := lv_entry ([.ref ox, .int p0]) (n := 3) (Nat.le_of_ble_eq_true rfl)
  rw [lg_entry_eq]
  generalize (lg_sl ([.ref ox, .int p0]) ++ List.replicate (3 - (lg_sl ([.ref ox, .int p0])).length) Slot.unset).toArray = ls at hl ⊢
  have hl : lv_has ls 3 [(0, .ref ox), (1, .int p0)] := hl
  have htab := vx_table (x := yL_judge) B (hts _ List.mem_cons_self)
  refine lv_aload_n hx hb dL_judge_0 rfl (lv_at hl 0 rfl) ?_
  refine lv_iload_n hx hb dL_judge_1 rfl (lv_at hl 1 rfl) ?_
  have hPc := hP
  have hFc := va_free (wc := [(ox, .inr (11, [.ref a11_reader, .ref a11_printed, .int 0, .ref a11_solver, .ref a11_ways, .ref a11_told, .ref a11_found, .ref a11_replies, .ref a11_trial, .ref a11_results, .ref a11_probe, .ref a11_sum, .ref a11_whole, .ref a11_game, .int 0, .int (-1)]))]) hD hS hA [0] rfl
  refine vx_callv (vx_runV (As := [.int p0]) (rest := []) ⟨hx, hb, hml, hown, hts⟩ (x_X11_judge l hlt D _ ox a11_reader a11_printed a11_solver a11_ways a11_told a11_found a11_replies a11_trial a11_results a11_probe a11_sum a11_whole a11_game p0) (cwV 1 hts gL_judge_X11_judge rfl rfl rfl (by decide +kernel) ⟨Nat.le_of_ble_eq_true rfl, Nat.le_of_ble_eq_true rfl⟩) ⟨hm_blindX, va_recv hK hP (ci := 11) (q0 := 0) rfl rfl, hm_preX hP hK hD hE hXX hZU hZN hFc⟩ rfl rfl hl.1 rfl (lv_room (Nat.le_of_ble_eq_true rfl)) dL_judge_2 ⟨Nat.le_of_ble_eq_true rfl, Nat.le_of_ble_eq_true rfl⟩) hS (fun q _ h => hFc q h) hFc (fun q _ h => hFc q h) (fun E ce q9 u t H1 locs ht hvm hpx hBX hz1 hk1 hS hcell hcv hcls => ?_) (fun u t H1 locs ht hvm hw hB hz1 hk1 hS => hw.elim)
  obtain ⟨hEE, hP1, hK1, hD1⟩ := hBX
  rw [ht] at hP1
  have hK := va_K.moved hvm.symm hK1
  have hP : va_P D vwCl [(ox, .inr (11, [.ref a11_reader, .ref a11_printed, .int 0, .ref a11_solver, .ref a11_ways, .ref a11_told, .ref a11_found, .ref a11_replies, .ref a11_trial, .ref a11_results, .ref a11_probe, .ref a11_sum, .ref a11_whole, .ref a11_game, .int 0, .int (-1)]))] H1 := hP1
  have hD : va_D A [(ox, .inr (11, [.ref a11_reader, .ref a11_printed, .int 0, .ref a11_solver, .ref a11_ways, .ref a11_told, .ref a11_found, .ref a11_replies, .ref a11_trial, .ref a11_results, .ref a11_probe, .ref a11_sum, .ref a11_whole, .ref a11_game, .int 0, .int (-1)]))] := hD1.weaken (fun k q _ h => hFc q.1 h)
  refine vx_widen (k := 1) (n := 6) (by omega) (by omega) ?_
  rcases hEE with hEE | hEE
  · obtain ⟨rfl, e2⟩ := hEE
    rw [e2]
    refine vx_catch (name := "java/lang/IllegalStateException") hown [⟨0, 5, 8, 15⟩] ⟨0, 5, 11, 20⟩ [] (by rw [htab]; rfl) (fun z h => by rw [List.mem_singleton.mp h]; exact Or.inr ⟨by decide, "java/lang/IllegalArgumentException", (hts (.classLink RL 15 "java/lang/IllegalArgumentException") (by decide +kernel)), hXX.nc_SA⟩) (by decide) (by decide) (hts (.classLink RL 20 "java/lang/IllegalStateException") (by decide +kernel)) (va_Nw.use rfl hXX.cast_ISE) hcell hcv hcls ?_
    refine lv_astore_n (lv' := [(2, .ref q9), (0, .ref ox), (1, .int p0)]) hx hb dL_judge_11 rfl hl (by decide) rfl (fun ls hl => ?_)
    refine lv_iconst (v := 2) hx hb dL_judge_12 (by decide) ?_
    have hP9 := hP.sub (ws' := [(ox, .inr (11, [.ref a11_reader, .ref a11_printed, .int 0, .ref a11_solver, .ref a11_ways, .ref a11_told, .ref a11_found, .ref a11_replies, .ref a11_trial, .ref a11_results, .ref a11_probe, .ref a11_sum, .ref a11_whole, .ref a11_game, .int 0, .int (-1)]))]) [0] rfl
    have hD9 := hD.sub (ws' := [(ox, .inr (11, [.ref a11_reader, .ref a11_printed, .int 0, .ref a11_solver, .ref a11_ways, .ref a11_told, .ref a11_found, .ref a11_replies, .ref a11_trial, .ref a11_results, .ref a11_probe, .ref a11_sum, .ref a11_whole, .ref a11_game, .int 0, .int (-1)]))]) [0] (by decide) rfl
    have hK9 := hK.sub (tys' := []) [] rfl
    exact W.iret (v := 2) hx hb hr (fun t ht hW => ⟨⟨2, (), rfl, rfl, by rw [ht]; exact hP9, va_K.moved hW.alike hK9, hD9⟩, hS.F ht⟩) hS.2.2 dL_judge_13
  · obtain ⟨rfl, e2⟩ := hEE
    rw [e2]
    refine vx_catch (name := "java/lang/IllegalArgumentException") hown [] ⟨0, 5, 8, 15⟩ [⟨0, 5, 11, 20⟩] (by rw [htab]; rfl) (fun z h => nomatch h) (by decide) (by decide) (hts (.classLink RL 15 "java/lang/IllegalArgumentException") (by decide +kernel)) (va_Nw.use rfl hXX.cast_IAE) hcell hcv hcls ?_
    refine lv_astore_n (lv' := [(2, .ref q9), (0, .ref ox), (1, .int p0)]) hx hb dL_judge_8 rfl hl (by decide) rfl (fun ls hl => ?_)
    refine lv_iconst (v := 1) hx hb dL_judge_9 (by decide) ?_
    have hP9 := hP.sub (ws' := [(ox, .inr (11, [.ref a11_reader, .ref a11_printed, .int 0, .ref a11_solver, .ref a11_ways, .ref a11_told, .ref a11_found, .ref a11_replies, .ref a11_trial, .ref a11_results, .ref a11_probe, .ref a11_sum, .ref a11_whole, .ref a11_game, .int 0, .int (-1)]))]) [0] rfl
    have hD9 := hD.sub (ws' := [(ox, .inr (11, [.ref a11_reader, .ref a11_printed, .int 0, .ref a11_solver, .ref a11_ways, .ref a11_told, .ref a11_found, .ref a11_replies, .ref a11_trial, .ref a11_results, .ref a11_probe, .ref a11_sum, .ref a11_whole, .ref a11_game, .int 0, .int (-1)]))]) [0] (by decide) rfl
    have hK9 := hK.sub (tys' := []) [] rfl
    exact W.iret (v := 1) hx hb hr (fun t ht hW => ⟨⟨1, (), rfl, rfl, by rw [ht]; exact hP9, va_K.moved hW.alike hK9, hD9⟩, hS.F ht⟩) hS.2.2 dL_judge_10
