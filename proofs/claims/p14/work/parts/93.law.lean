set_option maxHeartbeats 8000000 in
set_option maxRecDepth 100000 in
/-- THE LAW, from its entry -/
theorem whole_start {p : Program} {e : Env} {s : State} {m : MethodId} {below : List Frame} {meth : Method} {c : Code} (l : Launch) (hlt : l.stackTraces = false) {b Ln : Nat} {xs : Nat → Int32} (hL : Ln ≤ 3072) (C0 : lw_At p s m meth c b Ln xs) : W p l e room_1 s m #[Value.ref b] below meth c s.heap [] 0 0 (lw_Z below #[Value.ref b] s) (entryFrame m ([Value.ref b] : List Value).toArray 5) := by
  obtain ⟨Ad, hAd⟩ : ∃ A : Nat → Prop, A = fun q => s.heap.size ≤ q := ⟨_, rfl⟩
  obtain ⟨hx, hb, hr, hml, hown, hts0, hX, hbl, hlocks, hgv⟩ := id C0
  have hown : s.vm.findClass RL = some m.cls := hown
  have hts : ∀ w ∈ wsL_law, w.before #[Value.ref b] s = true := fun w h => hts0 w (wsL_law_in w h)
  have hA : ∀ q : Nat, s.heap.size ≤ q → Ad q := fun q h => by rw [hAd]; exact h
  have hbA : ¬ Ad b := by rw [hAd]; exact Nat.not_le.mpr hbl
  obtain ⟨c0, iS0, hKn0⟩ := u_known (C := RX0) (T := TX0) (N := 3) (n := 3) hts0 inX0 (hts0 (.instantiable RX0 3) (lw_cTin _ (List.mem_of_getElem? (i := 1) rfl) _ (List.mem_of_getElem? (i := 214) rfl)))
  obtain ⟨c1, iS1, hKn1⟩ := u_known (C := RX1) (T := TX1) (N := 3) (n := 3) hts0 inX1 (hts0 (.instantiable RX1 3) (lw_cTin _ (List.mem_of_getElem? (i := 1) rfl) _ (List.mem_of_getElem? (i := 236) rfl)))
  obtain ⟨c2, iS2, hKn2⟩ := u_known (C := RX2) (T := TX2) (N := 4) (n := 4) hts0 inX2 (hts0 (.instantiable RX2 4) (lw_cTin _ (List.mem_of_getElem? (i := 1) rfl) _ (List.mem_of_getElem? (i := 69) rfl)))
  obtain ⟨c3, iS3, hKn3⟩ := u_known (C := RX3) (T := TX3) (N := 2) (n := 2) hts0 inX3 (hts0 (.instantiable RX3 2) (lw_cTin _ (List.mem_of_getElem? (i := 2) rfl) _ (List.mem_of_getElem? (i := 133) rfl)))
  obtain ⟨c4, iS4, hKn4⟩ := u_known (C := RX4) (T := TX4) (N := 6) (n := 6) hts0 inX4 (hts0 (.instantiable RX4 6) (lw_cTin _ (List.mem_of_getElem? (i := 2) rfl) _ (List.mem_of_getElem? (i := 85) rfl)))
  obtain ⟨c5, iS5, hKn5⟩ := u_known (C := RX5) (T := TX5) (N := 13) (n := 13) hts0 inX5 (hts0 (.instantiable RX5 13) (lw_cTin _ (List.mem_of_getElem? (i := 1) rfl) _ (List.mem_of_getElem? (i := 32) rfl)))
  obtain ⟨c6, iS6, hKn6⟩ := u_known (C := RX6) (T := TX6) (N := 5) (n := 5) hts0 inX6 (hts0 (.instantiable RX6 5) (lw_cTin _ (List.mem_of_getElem? (i := 2) rfl) _ (List.mem_of_getElem? (i := 59) rfl)))
  obtain ⟨c7, iS7, hKn7⟩ := u_known (C := RX7) (T := TX7) (N := 8) (n := 8) hts0 inX7 (hts0 (.instantiable RX7 8) (lw_cTin _ (List.mem_of_getElem? (i := 1) rfl) _ (List.mem_of_getElem? (i := 78) rfl)))
  obtain ⟨c8, iS8, hKn8⟩ := u_known (C := RX8) (T := TX8) (N := 13) (n := 13) hts0 inX8 (hts0 (.instantiable RX8 13) (lw_cTin _ (List.mem_of_getElem? (i := 1) rfl) _ (List.mem_of_getElem? (i := 207) rfl)))
  obtain ⟨c9, iS9, hKn9⟩ := u_known (C := RX9) (T := TX9) (N := 3) (n := 3) hts0 inX9 (hts0 (.instantiable RX9 3) (lw_cTin _ (List.mem_of_getElem? (i := 2) rfl) _ (List.mem_of_getElem? (i := 118) rfl)))
  obtain ⟨c10, iS10, hKn10⟩ := u_known (C := RX10) (T := TX10) (N := 6) (n := 6) hts0 inX10 (hts0 (.instantiable RX10 6) (lw_cTin _ (List.mem_of_getElem? (i := 1) rfl) _ (List.mem_of_getElem? (i := 38) rfl)))
  obtain ⟨c11, iS11, hKn11⟩ := u_known (C := RX11) (T := TX11) (N := 16) (n := 16) hts0 inX11 (hts0 (.instantiable RX11 16) (lw_cTin _ (List.mem_of_getElem? (i := 1) rfl) _ (List.mem_of_getElem? (i := 24) rfl)))
  obtain ⟨c12, iS12, hKn12⟩ := u_known (C := RX12) (T := TX12) (N := 58) (n := 58) hts0 inX12 (hts0 (.instantiable RX12 58) (lw_cTin _ (List.mem_of_getElem? (i := 5) rfl) _ (List.mem_of_getElem? (i := 168) rfl)))
  obtain ⟨D, hKc⟩ : ∃ D : va_G, ∀ (k : Nat) (q : vw_C), vwCl[k]? = some q → u_Kn s q.1 q.2.1 q.2.2 (D.1 k) (D.2 k) := by
    refine ⟨(fun k => if k = 0 then c0 else if k = 1 then c1 else if k = 2 then c2 else if k = 3 then c3 else if k = 4 then c4 else if k = 5 then c5 else if k = 6 then c6 else if k = 7 then c7 else if k = 8 then c8 else if k = 9 then c9 else if k = 10 then c10 else if k = 11 then c11 else c12, fun k => if k = 0 then iS0 else if k = 1 then iS1 else if k = 2 then iS2 else if k = 3 then iS3 else if k = 4 then iS4 else if k = 5 then iS5 else if k = 6 then iS6 else if k = 7 then iS7 else if k = 8 then iS8 else if k = 9 then iS9 else if k = 10 then iS10 else if k = 11 then iS11 else iS12), ?_⟩
    intro k q hq
    match k, hq with
    | 0, hq => cases hq; exact hKn0
    | 1, hq => cases hq; exact hKn1
    | 2, hq => cases hq; exact hKn2
    | 3, hq => cases hq; exact hKn3
    | 4, hq => cases hq; exact hKn4
    | 5, hq => cases hq; exact hKn5
    | 6, hq => cases hq; exact hKn6
    | 7, hq => cases hq; exact hKn7
    | 8, hq => cases hq; exact hKn8
    | 9, hq => cases hq; exact hKn9
    | 10, hq => cases hq; exact hKn10
    | 11, hq => cases hq; exact hKn11
    | 12, hq => cases hq; exact hKn12
    | k + 13, hq => simp [vwCl] at hq
  have hE : hm_E s := hm_E_of hts0
  have hXX : hm_X s := hm_X_of hts0 hgv
  obtain ⟨d0, hd0⟩ := hm_kP (ty := .int) (hts0 (.arrayClass .int) (lw_cTin _ (List.mem_of_getElem? (i := 1) rfl) _ (List.mem_of_getElem? (i := 138) rfl))) (fun c q => q)
  obtain ⟨d1, hd1⟩ := hm_kP (ty := .long) (hts0 (.arrayClass .long) (lw_cTin _ (List.mem_of_getElem? (i := 1) rfl) _ (List.mem_of_getElem? (i := 139) rfl))) (fun c q => q)
  obtain ⟨d2, hd2⟩ := hm_kP (ty := .char) (hts0 (.arrayClass .char) (lw_cTin _ (List.mem_of_getElem? (i := 1) rfl) _ (List.mem_of_getElem? (i := 67) rfl))) (fun c q => q)
  obtain ⟨d3, hd3⟩ := hm_kP (ty := .boolean) (hts0 (.arrayClass .boolean) (lw_cTin _ (List.mem_of_getElem? (i := 1) rfl) _ (List.mem_of_getElem? (i := 205) rfl))) (fun c q => q)
  obtain ⟨d4, hd4⟩ := hm_kO (va_AO.use (A := #[Value.ref b]) hE.ao_RX0)
  obtain ⟨d5, hd5⟩ := hm_kO (va_AO.use (A := #[Value.ref b]) hE.ao_RX4)
  obtain ⟨d6, hd6⟩ := hm_kO (va_AO.use (A := #[Value.ref b]) hE.ao_RX6)
  obtain ⟨d7, hd7⟩ := hm_kO (va_AO.use (A := #[Value.ref b]) hE.ao_RX7)
  obtain ⟨d8, hd8⟩ := hm_kO (va_AO.use (A := #[Value.ref b]) hE.ao_RX3)
  obtain ⟨d9, hd9⟩ := hm_kO (va_AO.use (A := #[Value.ref b]) hE.ao_RX9)
  obtain ⟨d10, hd10⟩ := hm_kA (va_AOA.use (A := #[Value.ref b]) hE.aoa_long)
  obtain ⟨C, eC⟩ : ∃ C : Nat → ClassId, C = fun k => ([d0, d1, d2, d3, d4, d5, d6, d7, d8, d9, d10] : List ClassId).getD k d0 := ⟨_, rfl⟩
  have hKx : va_K D vwCl (cw_t C) s := ⟨hKc, fun k q hk => by
    rw [eC] at hk
    match k, hk with
    | 0, hk => cases hk; exact hd0
    | 1, hk => cases hk; exact hd1
    | 2, hk => cases hk; exact hd2
    | 3, hk => cases hk; exact hd3
    | 4, hk => cases hk; exact hd4
    | 5, hk => cases hk; exact hd5
    | 6, hk => cases hk; exact hd6
    | 7, hk => cases hk; exact hd7
    | 8, hk => cases hk; exact hd8
    | 9, hk => cases hk; exact hd9
    | 10, hk => cases hk; exact hd10
    | k + 11, hk => simp [cw_t] at hk⟩
  have hS : va_S Ad s.heap s.heap [] := va_S.rf
  have hP : va_P D vwCl [] s.heap := fun k q h => by simp at h
  have hD : va_D Ad [] := ⟨fun i j p q h => by simp at h, fun k q h => by simp at h⟩
  have hZU : vx_Zq Bundle.tN "UNASSIGNED_STACK" Bundle.steD Ad s s.heap := hm_ZU hts0 hgv (fun a h1 h2 => by rw [hAd] at h2; exact absurd h1 (Nat.not_lt.mpr h2))
  have hZN : vx_Zq Bundle.tN "SUPPRESSED_SENTINEL" Bundle.listD Ad s s.heap := hm_ZN hts0 hgv (fun a h1 h2 => by rw [hAd] at h2; exact absurd h1 (Nat.not_lt.mpr h2))
  have hl := lv_entry ([.ref b]) (n := 5) (Nat.le_of_ble_eq_true rfl)
  rw [lg_entry_eq]
  generalize (lg_sl ([.ref b]) ++ List.replicate (5 - (lg_sl ([.ref b])).length) Slot.unset).toArray = ls at hl ⊢
  have hl : lv_has ls 5 [(0, .ref b)] := hl
  refine va_new (ci := 11) (fs := [.null, .null, .int 0, .null, .null, .null, .null, .null, .null, .null, .null, .null, .null, .null, .int 0, .int 0]) (C := RX11) (T := TX11) (N := 16) hx hb hts inlX11 tyX11 tyX11_ok hown (hts (.classLink RL 8 RX11) (wsL_Sin _ (List.mem_of_getElem? (i := 0) rfl) _ (List.mem_of_getElem? (i := 0) rfl))) (hts (.instantiable RX11 16) (wsL_Sin _ (List.mem_of_getElem? (i := 0) rfl) _ (List.mem_of_getElem? (i := 1) rfl))) (hts (.initialized RX11) (wsL_Sin _ (List.mem_of_getElem? (i := 0) rfl) _ (List.mem_of_getElem? (i := 2) rfl))) hKx hP hD hS hA rfl (fun j hj => by rcases (show j = 0 ∨ j = 1 ∨ j = 2 ∨ j = 3 ∨ j = 4 ∨ j = 5 ∨ j = 6 ∨ j = 7 ∨ j = 8 ∨ j = 9 ∨ j = 10 ∨ j = 11 ∨ j = 12 ∨ j = 13 ∨ j = 14 ∨ j = 15 by omega) with rfl | rfl | rfl | rfl | rfl | rfl | rfl | rfl | rfl | rfl | rfl | rfl | rfl | rfl | rfl | rfl <;> rfl) (Nat.le_of_ble_eq_true rfl) (Nat.le_of_ble_eq_true rfl) dL_law_0 (fun h H hP hD hS => ?_)
  have hP : va_P D vwCl [(h, .inr (11, [.null, .null, .int 0, .null, .null, .null, .null, .null, .null, .null, .null, .null, .null, .null, .int 0, .int 0]))] H := hP
  have hD : va_D Ad [(h, .inr (11, [.null, .null, .int 0, .null, .null, .null, .null, .null, .null, .null, .null, .null, .null, .null, .int 0, .int 0]))] := hD
  refine W.widen (k := 1) (n := 16) (by omega) (by omega) ?_
  refine lv_dup hx hb dL_law_3 rfl ?_
  have hFc := va_free (wc := [(h, .inr (11, [.null, .null, .int 0, .null, .null, .null, .null, .null, .null, .null, .null, .null, .null, .null, .int 0, .int 0]))]) hD hS hA [0] rfl
  refine va_callv (va_runI (As := []) (rest := [.ref h]) ⟨hx, hb, hml, hown, hts⟩ (n_X11_init l D C h _) (cwI 0 hts gL_law_X11_init rfl rfl rfl (hts (.initialized RX11) (wsL_Sin _ (List.mem_of_getElem? (i := 0) rfl) _ (List.mem_of_getElem? (i := 2) rfl))) (hts (.methodLink RL 29 yX11_init) (wsL_Sin _ (List.mem_of_getElem? (i := 0) rfl) _ (List.mem_of_getElem? (i := 7) rfl))) (hts (.instanceMethod yX11_init) (wsL_Sin _ (List.mem_of_getElem? (i := 0) rfl) _ (List.mem_of_getElem? (i := 8) rfl))) rfl (by decide +kernel) ⟨Nat.le_of_ble_eq_true rfl, Nat.le_of_ble_eq_true rfl⟩) ⟨hm_blind, hm_pre hP hKx hD hE⟩ rfl rfl hl.1 rfl (lv_room (Nat.le_of_ble_eq_true rfl)) dL_law_4 ⟨Nat.le_of_ble_eq_true rfl, Nat.le_of_ble_eq_true rfl⟩) hS (fun q _ h => hFc q h) hFc (fun u t H1 locs ht hvm hw hB hz1 hk1 hS => ?_)
  obtain ⟨L, G, F, ⟨HC, hL0, hL4, hL5⟩, hP1, hK1, hD1⟩ := hB
  rw [ht] at hP1
  have hP : va_P D vwCl (cc_w C L G) H1 := hP1
  have hD : va_D Ad (cc_w C L G) := hD1.weaken (fun k q _ h => hFc q.1 h)
  generalize H1 = H at hP hS ⊢
  refine W.widen (k := 2297) (n := 49086) (by omega) (by omega) ?_
  refine W.eq (g2 := F0 m 7 ls [.ref h]) rfl ?_
  refine lv_astore_n (lv' := [(1, .ref h), (0, .ref b)]) hx hb dL_law_7 rfl hl (by decide) rfl (fun ls hl => ?_)
  refine va_new (ci := 12) (fs := [.null, .null, .null, .int 0, .null, .int 0, .int 0, .null, .null, .null, .int 0, .null, .int 0, .null, .null, .null, .null, .null, .null, .null, .null, .null, .null, .null, .null, .null, .null, .null, .null, .null, .null, .null, .int 0, .int 0, .int 0, .int 0, .int 0, .null, .null, .null, .null, .null, .null, .null, .null, .int 0, .int 0, .long 0, .long 0, .null, .null, .null, .null, .null, .null, .null, .null, .int 0]) (C := RX12) (T := TX12) (N := 58) hx hb hts inlX12 tyX12 tyX12_ok hown (hts (.classLink RL 30 RX12) (wsL_Sin _ (List.mem_of_getElem? (i := 0) rfl) _ (List.mem_of_getElem? (i := 3) rfl))) (hts (.instantiable RX12 58) (wsL_Sin _ (List.mem_of_getElem? (i := 0) rfl) _ (List.mem_of_getElem? (i := 4) rfl))) (hts (.initialized RX12) (wsL_Sin _ (List.mem_of_getElem? (i := 0) rfl) _ (List.mem_of_getElem? (i := 5) rfl))) hKx hP hD hS hA rfl (fun j hj => by rcases (show j = 0 ∨ j = 1 ∨ j = 2 ∨ j = 3 ∨ j = 4 ∨ j = 5 ∨ j = 6 ∨ j = 7 ∨ j = 8 ∨ j = 9 ∨ j = 10 ∨ j = 11 ∨ j = 12 ∨ j = 13 ∨ j = 14 ∨ j = 15 ∨ j = 16 ∨ j = 17 ∨ j = 18 ∨ j = 19 ∨ j = 20 ∨ j = 21 ∨ j = 22 ∨ j = 23 ∨ j = 24 ∨ j = 25 ∨ j = 26 ∨ j = 27 ∨ j = 28 ∨ j = 29 ∨ j = 30 ∨ j = 31 ∨ j = 32 ∨ j = 33 ∨ j = 34 ∨ j = 35 ∨ j = 36 ∨ j = 37 ∨ j = 38 ∨ j = 39 ∨ j = 40 ∨ j = 41 ∨ j = 42 ∨ j = 43 ∨ j = 44 ∨ j = 45 ∨ j = 46 ∨ j = 47 ∨ j = 48 ∨ j = 49 ∨ j = 50 ∨ j = 51 ∨ j = 52 ∨ j = 53 ∨ j = 54 ∨ j = 55 ∨ j = 56 ∨ j = 57 by omega) with rfl | rfl | rfl | rfl | rfl | rfl | rfl | rfl | rfl | rfl | rfl | rfl | rfl | rfl | rfl | rfl | rfl | rfl | rfl | rfl | rfl | rfl | rfl | rfl | rfl | rfl | rfl | rfl | rfl | rfl | rfl | rfl | rfl | rfl | rfl | rfl | rfl | rfl | rfl | rfl | rfl | rfl | rfl | rfl | rfl | rfl | rfl | rfl | rfl | rfl | rfl | rfl | rfl | rfl | rfl | rfl | rfl | rfl <;> rfl) (Nat.le_of_ble_eq_true rfl) (Nat.le_of_ble_eq_true rfl) dL_law_8 (fun om H hP hD hS => ?_)
  have hP : va_P D vwCl (cc_w C L G ++ ([(om, .inr (12, [.null, .null, .null, .int 0, .null, .int 0, .int 0, .null, .null, .null, .int 0, .null, .int 0, .null, .null, .null, .null, .null, .null, .null, .null, .null, .null, .null, .null, .null, .null, .null, .null, .null, .null, .null, .int 0, .int 0, .int 0, .int 0, .int 0, .null, .null, .null, .null, .null, .null, .null, .null, .int 0, .int 0, .long 0, .long 0, .null, .null, .null, .null, .null, .null, .null, .null, .int 0]))] : va_W)) H := hP
  have hD : va_D Ad (cc_w C L G ++ ([(om, .inr (12, [.null, .null, .null, .int 0, .null, .int 0, .int 0, .null, .null, .null, .int 0, .null, .int 0, .null, .null, .null, .null, .null, .null, .null, .null, .null, .null, .null, .null, .null, .null, .null, .null, .null, .null, .null, .int 0, .int 0, .int 0, .int 0, .int 0, .null, .null, .null, .null, .null, .null, .null, .null, .int 0, .int 0, .long 0, .long 0, .null, .null, .null, .null, .null, .null, .null, .null, .int 0]))] : va_W)) := hD
  refine W.widen (k := 2298) (n := 49144) (by omega) (by omega) ?_
  refine lv_dup hx hb dL_law_11 rfl ?_
  have hPc := two_P2 hP
  have hDc := two_D2 hD
  have hFc := two_F hDc hS hA
  have hK0 : va_K D vwCl [] s := ⟨hKc, fun k q h => by simp at h⟩
  refine va_callv (va_runI (As := []) (rest := [.ref om]) ⟨hx, hb, hml, hown, hts⟩ (c_X12_init l D om _) (cwI 0 hts gL_law_X12_init rfl rfl rfl (hts (.initialized RX12) (wsL_Sin _ (List.mem_of_getElem? (i := 0) rfl) _ (List.mem_of_getElem? (i := 5) rfl))) (hts (.methodLink RL 32 yX12_init) (wsL_Sin _ (List.mem_of_getElem? (i := 7) rfl) _ (List.mem_of_getElem? (i := 17) rfl))) (hts (.instanceMethod yX12_init) (wsL_Sin _ (List.mem_of_getElem? (i := 7) rfl) _ (List.mem_of_getElem? (i := 18) rfl))) rfl (by decide +kernel) ⟨Nat.le_of_ble_eq_true rfl, Nat.le_of_ble_eq_true rfl⟩) ⟨hm_blind, hm_pre hPc hK0 hDc hE⟩ rfl rfl hl.1 rfl (lv_room (Nat.le_of_ble_eq_true rfl)) dL_law_12 ⟨Nat.le_of_ble_eq_true rfl, Nat.le_of_ble_eq_true rfl⟩) hS (fun q _ h => hFc q h) hFc (fun u t H1 locs ht hvm hw hB hz1 hk1 hS => ?_)
  obtain ⟨R, Cm, hP1, hK1, hD1⟩ := ms_pack hB
  rw [ht] at hP1
  have hK1 := va_K.moved hvm.symm hK1
  obtain ⟨zm, ezm⟩ : ∃ R : Nat → Int, R = fun k => ([0, 0, 0, 0, 0, 0, (-1), 0, 0, 0, 0, 0, 0, 0, 0, 0, 0, 0, 0, 0, 0, 0, 0, 0, 0, 0, 0, 0, 0, 0, 0, 0, 0, 1, 0, 0, 0, 0, 0, 0, 0, 0, 0, 0, 0, 0, 0, 0, 0, 0, 0, 0, 0, 0, 0, 0, 0, 0] : List Int).getD k 0 := ⟨_, rfl⟩
  obtain ⟨Am, eAm⟩ : ∃ R : Nat → Nat → Int, R = fun _ _ => 0 := ⟨_, rfl⟩
  have hP1 : va_P D vwCl (mw_w om R Cm zm Am) H1 := by rw [ezm, eAm]; exact hP1
  have hKm : va_K D vwCl (mw_t Cm) s := hK1
  obtain ⟨hP, hD⟩ := two_J2 (W2' := mw_w om R Cm zm Am) hP hD hk1 hFc hP1 (by rw [ezm, eAm]; exact hD1)
  generalize H1 = H at hP hS ⊢
  have hI : mi_I zm Am := by rw [ezm, eAm]; exact mi_start
  have hR := lw_V_start (lw_W_start (lw_start (K := gK G) (r := gr G) (h := h) (z := gz G) (A := gA G) (Am := Am) (show gz G (gr G (gr G h 0) 2) 1 = 0 from hL0) (show gz G h 14 = 0 from hL4) (show gz G h 15 = -1 from hL5) (show zm 5 = 0 by rw [ezm]; rfl) (show zm 6 = -1 by rw [ezm]; rfl) (show zm 34 = 0 by rw [ezm]; rfl)) (show gz G h 14 = 0 from hL4)) (show gz G h 14 = 0 from hL4) (fun t9 ht9 => by have q9 := HC.1.2.2.2.2.2.2.2.2.2.1 (2 + t9) (by omega); rcases q9.1 with e9 | e9; exact e9; exact absurd (hL4.symm.trans (q9.2 e9)) (by decide)) (fun t9 _ => by rw [eAm])
  refine W.widen (k := 2341) (n := 683873) (by omega) (by omega) ?_
  refine W.eq (g2 := F0 m 15 ls [.ref om]) rfl ?_
  refine lv_astore_n (lv' := [(2, .ref om), (1, .ref h), (0, .ref b)]) hx hb dL_law_15 rfl hl (by decide) rfl (fun ls hl => ?_)
  refine lv_iconst (v := hz_i 0) hx hb dL_law_16 (by decide +kernel) ?_
  refine lv_istore_n (lv' := [(3, .int (hz_i 0)), (2, .ref om), (1, .ref h), (0, .ref b)]) hx hb dL_law_17 rfl hl (by decide) rfl (fun ls hl => ?_)
  exact law_loop l hlt hL C0 hAd hE hXX hZU hZN hKx hKm Ln 0 0 _ _ _ _ _ _ _ _ (by omega) rfl (by omega) HC hI hR hP hD hS hl
