set_option maxHeartbeats 8000000 in
set_option maxRecDepth 100000 in
theorem law_0 {p : Program} {e : Env} {s : State} {m : MethodId} {below : List Frame} {meth : Method} {c : Code} (l : Launch) (hlt : l.stackTraces = false) {b Ln : Nat} {xs : Nat → Int32} (hL : Ln ≤ 3072) (C0 : lw_At p s m meth c b Ln xs) {D : va_G} {C Cm : Nat → ClassId} {Ad : Nat → Prop} (hAd : Ad = fun q => s.heap.size ≤ q) (hE : hm_E s) (hXX : hm_X s) (hZU : vx_Zq Bundle.tN "UNASSIGNED_STACK" Bundle.steD Ad s s.heap) (hZN : vx_Zq Bundle.tN "SUPPRESSED_SENTINEL" Bundle.listD Ad s s.heap) (hKx : va_K D vwCl (cw_t C) s) (hKm : va_K D vwCl (mw_t Cm) s) {L : List Nat} {K : Nat → cw_K} {w : Nat → Nat × Nat} {ρ : Nat → Nat} {h om : Nat} {R : Nat → Nat} {n : Nat} {i : Int} (hi : i = 6 * (n : Int)) (hn : 6 * n + 6 ≤ Ln) {z : Nat → Nat → Int} {r : Nat → Nat → Nat} {A : Nat → Nat → Int} {zm : Nat → Int} {Am : Nat → Nat → Int} {H : Heap} {locs : List Loc} {ls : Array Slot} (nxt : ∀ (z : Nat → Nat → Int) (r : Nat → Nat → Nat) (A : Nat → Nat → Int) (zm : Nat → Int) (Am : Nat → Nat → Int) (H : Heap) (locs : List Loc) (ls : Array Slot), ci_C L K r w ρ z A h → mi_I zm Am → lw_V K r h z A zm Am → va_P D vwCl (cw_w C L K z r A ++ mw_w om R Cm zm Am) H → va_D Ad (cw_w C L K z r A ++ mw_w om R Cm zm Am) → va_S Ad s.heap H locs → lv_has ls 5 [(3, .int (hz_i i)), (2, .ref om), (1, .ref h), (0, .ref b)] → W p l e room_1 s m #[Value.ref b] below meth c H locs (2341 + (n + 1)) (683873 + 6 * (n + 1)) (lw_Z below #[Value.ref b] s) (F0 m 577 ls [])) (HC : ci_C L K r w ρ z A h) (hI : mi_I zm Am) (hR : lw_V K r h z A zm Am) (hP : va_P D vwCl (cw_w C L K z r A ++ mw_w om R Cm zm Am) H) (hD : va_D Ad (cw_w C L K z r A ++ mw_w om R Cm zm Am)) (hS : va_S Ad s.heap H locs) (hl : lv_has ls 5 [(3, .int (hz_i i)), (2, .ref om), (1, .ref h), (0, .ref b)]) : W p l e room_1 s m #[Value.ref b] below meth c H locs (2341 + n) (683873 + 6 * n) (lw_Z below #[Value.ref b] s) (F0 m 116 ls []) := by
  obtain ⟨hx, hb, hr, hml, hown, hts0, hX, hbl, hlocks, hgv⟩ := id C0
  have hown : s.vm.findClass RL = some m.cls := hown
  have hts : ∀ w ∈ wsL_law, w.before #[Value.ref b] s = true := fun w h => hts0 w (wsL_law_in w h)
  have hA : ∀ q : Nat, s.heap.size ≤ q → Ad q := fun q h => by rw [hAd]; exact h
  have hbA : ¬ Ad b := by rw [hAd]; exact Nat.not_le.mpr hbl
  have I := HC.1
  have hO : cw_O L K 11 h := I.2.1.1.1
  obtain ⟨⟨⟨hRt, hR15, hR14, σ9, hσ⟩, W9⟩, J9, -⟩ := id hR
  have Gx : z h 14 = 1 → sg_R K r (r h 13) σ9 z A := fun q => (hσ q).1
  have Gm : zm 34 = 1 → mg_R (zm 32).toNat Am σ9 := fun q => (hσ (hR14.trans q)).2
  have ec : zm 34 = 1 → ∀ t, t < 2 → (ce_G K r h z A Am t ↔ me_G zm Am t) := fun q t ht => ce_me ht (Gx (hR14.trans q)) (Gm q)
  refine lv_aload_n hx hb dL_law_116 rfl (lv_at hl 2 rfl) ?_
  refine lv_aload_n hx hb dL_law_117 rfl (lv_at hl 3 rfl) ?_
  refine lv_iload_n hx hb dL_law_118 rfl (lv_at hl 0 rfl) ?_
  refine lv_iconst (v := hz_i 1) hx hb dL_law_119 (by decide +kernel) ?_
  refine hz_iadd hx hb dL_law_120 ?_
  refine va_sld hx hb hX hbl hbA hS (hz_in (i := i + 1) ⟨by omega, by omega⟩ (by omega)) dL_law_121 ?_
  refine lv_topi (fun x_2 ex_2 => ?_)
  obtain ⟨y_1, ry_1, qy_1⟩ := hz_i_of x_2
  subst qy_1
  have ey_1 := ex_2
  refine lv_i2l hx hb dL_law_122 rfl ?_
  refine lv_bipush (v := hz_i 32) hx hb dL_law_123 (by decide +kernel) ?_
  refine lv_lshl hx hb dL_law_125 rfl ?_
  refine lv_aload_n hx hb dL_law_126 rfl (lv_at hl 3 rfl) ?_
  refine lv_iload_n hx hb dL_law_127 rfl (lv_at hl 0 rfl) ?_
  refine lv_iconst (v := hz_i 2) hx hb dL_law_128 (by decide +kernel) ?_
  refine hz_iadd hx hb dL_law_129 ?_
  refine va_sld hx hb hX hbl hbA hS (hz_in (i := i + 2) ⟨by omega, by omega⟩ (by omega)) dL_law_130 ?_
  refine lv_topi (fun x_4 ex_4 => ?_)
  obtain ⟨y_3, ry_3, qy_3⟩ := hz_i_of x_4
  subst qy_3
  have ey_3 := ex_4
  refine lv_i2l hx hb dL_law_131 rfl ?_
  refine lv_ldc2 hx hb hown (hts (.constantLong RL 33 (4294967295)) (by decide +kernel)) dL_law_132 ?_
  refine lv_land hx hb dL_law_135 ?_
  refine lv_lor hx hb dL_law_136 ?_
  refine lv_topl (fun w_5 ew_5 => ?_)
  obtain ⟨y_6, ry_6, qy_6⟩ := hz_l_of w_5
  subst qy_6
  have ey_6 := ew_5
  refine lv_aload_n hx hb dL_law_137 rfl (lv_at hl 3 rfl) ?_
  refine lv_iload_n hx hb dL_law_138 rfl (lv_at hl 0 rfl) ?_
  refine lv_iconst (v := hz_i 3) hx hb dL_law_139 (by decide +kernel) ?_
  refine hz_iadd hx hb dL_law_140 ?_
  refine va_sld hx hb hX hbl hbA hS (hz_in (i := i + 3) ⟨by omega, by omega⟩ (by omega)) dL_law_141 ?_
  refine lv_topi (fun x_8 ex_8 => ?_)
  obtain ⟨y_7, ry_7, qy_7⟩ := hz_i_of x_8
  subst qy_7
  have ey_7 := ex_8
  obtain ⟨q8, hq8⟩ := cw_at (C := C) (z := z) (r := r) (A := A) hO.1 hO.2
  have hPc := two_P1 hP
  have hDc := two_D1 hD
  have hFc := two_F hDc hS hA
  refine va_calli (va_runV (As := [.long (hz_l y_6), .int (hz_i y_7)]) (rest := []) ⟨hx, hb, hml, hown, hts⟩ (k_c11_type l D _ C L K z r A h y_6 y_7 (fun a z' A' => ci_I L K r w ρ z' A' h ∧ lw_x ρ r h z A z' A' a y_7 y_6) (wv_c11_type I ry_7 (fun ok z' A' I' e' tx f' => ⟨I', Or.inl ⟨ok, rfl, e', tx, f'⟩⟩) (fun no => ⟨I, Or.inr ⟨no, rfl, rfl, rfl⟩⟩))) (cwV 2 hts gL_law_X11_type rfl rfl rfl (by decide +kernel) ⟨Nat.le_of_ble_eq_true rfl, Nat.le_of_ble_eq_true rfl⟩) ⟨hm_blind, va_recv hKx hPc (ci := 11) (q0 := q8) rfl hq8, hm_pre hPc hKx hDc hE⟩ rfl rfl hl.1 rfl (lv_room (Nat.le_of_ble_eq_true rfl)) dL_law_142 ⟨(by show 2341 + n + 0 ≤ 601024; omega), (by show 683873 + 6 * n + 0 ≤ 7293034; omega)⟩) hS (fun q _ h => hFc q h) hFc (fun rv_9 u t H1 locs ht hvm hw hB hz1 hk1 hS => ?_)
  obtain ⟨a_rv_9, z', _, A'⟩ := u
  obtain ⟨hP1, hK1, hD1⟩ := hB
  rw [ht] at hP1
  obtain ⟨hP, hD⟩ := two_J1 hP hD hk1 hFc hP1 hD1
  generalize H1 = H at hP hS ⊢
  have hP : va_P D vwCl (cw_w C L K z' r A' ++ mw_w om R Cm zm Am) H := hP
  have hD : va_D Ad (cw_w C L K z' r A' ++ mw_w om R Cm zm Am) := hD
  obtain ⟨hrv, hw⟩ := hw
  subst hrv
  obtain ⟨I', hqx⟩ := hw
  refine W.eq (g2 := F0 m 145 ls [.int (hz_i a_rv_9)]) rfl ?_
  refine lv_pop hx hb dL_law_145 rfl ?_
  refine lv_aload_n hx hb dL_law_146 rfl (lv_at hl 1 rfl) ?_
  refine lv_aload_n hx hb dL_law_147 rfl (lv_at hl 3 rfl) ?_
  refine lv_iload_n hx hb dL_law_148 rfl (lv_at hl 0 rfl) ?_
  refine lv_iconst (v := hz_i 1) hx hb dL_law_149 (by decide +kernel) ?_
  refine hz_iadd hx hb dL_law_150 ?_
  refine va_sld hx hb hX hbl hbA hS (hz_in (i := i + 1) ⟨by omega, by omega⟩ (by omega)) dL_law_151 ?_
  refine lv_topi (fun x_10 ex_10 => ?_)
  obtain rfl : x_10 = hz_i y_1 := ex_10.trans ey_1.symm
  refine lv_i2l hx hb dL_law_152 rfl ?_
  refine lv_bipush (v := hz_i 32) hx hb dL_law_153 (by decide +kernel) ?_
  refine lv_lshl hx hb dL_law_155 rfl ?_
  refine lv_aload_n hx hb dL_law_156 rfl (lv_at hl 3 rfl) ?_
  refine lv_iload_n hx hb dL_law_157 rfl (lv_at hl 0 rfl) ?_
  refine lv_iconst (v := hz_i 2) hx hb dL_law_158 (by decide +kernel) ?_
  refine hz_iadd hx hb dL_law_159 ?_
  refine va_sld hx hb hX hbl hbA hS (hz_in (i := i + 2) ⟨by omega, by omega⟩ (by omega)) dL_law_160 ?_
  refine lv_topi (fun x_11 ex_11 => ?_)
  obtain rfl : x_11 = hz_i y_3 := ex_11.trans ey_3.symm
  refine lv_i2l hx hb dL_law_161 rfl ?_
  refine lv_ldc2 hx hb hown (hts (.constantLong RL 33 (4294967295)) (by decide +kernel)) dL_law_162 ?_
  refine lv_land hx hb dL_law_165 ?_
  refine lv_lor hx hb dL_law_166 ?_
  refine lv_topl (fun w_12 ew_12 => ?_)
  obtain rfl : w_12 = hz_l y_6 := ew_12.trans ey_6.symm
  refine lv_aload_n hx hb dL_law_167 rfl (lv_at hl 3 rfl) ?_
  refine lv_iload_n hx hb dL_law_168 rfl (lv_at hl 0 rfl) ?_
  refine lv_iconst (v := hz_i 3) hx hb dL_law_169 (by decide +kernel) ?_
  refine hz_iadd hx hb dL_law_170 ?_
  refine va_sld hx hb hX hbl hbA hS (hz_in (i := i + 3) ⟨by omega, by omega⟩ (by omega)) dL_law_171 ?_
  refine lv_topi (fun x_13 ex_13 => ?_)
  obtain rfl : x_13 = hz_i y_7 := ex_13.trans ey_7.symm
  have hPc := two_P2 hP
  have hDc := two_D2 hD
  have hFc := two_F hDc hS hA
  refine va_calli (va_runV (As := [.long (hz_l y_6), .int (hz_i y_7)]) (rest := []) ⟨hx, hb, hml, hown, hts⟩ (k_type l D _ om R Cm zm Am y_6 y_7 (fun a z' B => mi_I z' B ∧ lw_y zm Am z' B a y_7 y_6) (wv_type hI ry_6 ry_7 (fun ok z' B I' e' tx k' b' => ⟨I', k', Or.inl ⟨ok, rfl, e', tx, b'⟩⟩) (fun no z' I' e' k' => ⟨I', k', Or.inr ⟨no, rfl, e', rfl⟩⟩))) (cwV 2 hts gL_law_X12_type rfl rfl rfl (by decide +kernel) ⟨Nat.le_of_ble_eq_true rfl, Nat.le_of_ble_eq_true rfl⟩) ⟨hm_blind, va_recv hKm hPc (ci := 12) (q0 := 0) rfl rfl, hm_pre hPc hKm hDc hE⟩ rfl rfl hl.1 rfl (lv_room (Nat.le_of_ble_eq_true rfl)) dL_law_172 ⟨(by show 2341 + n + 0 ≤ 601024; omega), (by show 683873 + 6 * n + 0 ≤ 7293034; omega)⟩) hS (fun q _ h => hFc q h) hFc (fun rv_14 u t H1 locs ht hvm hw hB hz1 hk1 hS => ?_)
  obtain ⟨a_rv_14, zm', B'⟩ := u
  obtain ⟨hP1, hK1, hD1⟩ := hB
  rw [ht] at hP1
  obtain ⟨hP, hD⟩ := two_J2 hP hD hk1 hFc hP1 hD1
  generalize H1 = H at hP hS ⊢
  have hP : va_P D vwCl (cw_w C L K z' r A' ++ mw_w om R Cm zm' B') H := hP
  have hD : va_D Ad (cw_w C L K z' r A' ++ mw_w om R Cm zm' B') := hD
  obtain ⟨hrv, hw⟩ := hw
  subst hrv
  obtain ⟨hI', hqm⟩ := hw
  obtain ⟨ea, hR'⟩ := lw_V_type I hR hqx hqm
  refine W.eq (g2 := F0 m 175 ls [.int (hz_i a_rv_14)]) rfl ?_
  refine lv_pop hx hb dL_law_175 rfl ?_
  refine lv_goto (tgt := 577) hx hb dL_law_176 (by decide) ?_
  refine W.widen (k := 2341 + (n + 1)) (n := 683873 + 6 * (n + 1)) (by omega) (by omega) ?_
  exact nxt z' r A' zm' B' H locs ls (⟨I', HC.2⟩) hI' (hR') hP hD hS (lv_sub hl [0, 1, 2, 3] rfl)

set_option maxHeartbeats 8000000 in
set_option maxRecDepth 100000 in
theorem law_1 {p : Program} {e : Env} {s : State} {m : MethodId} {below : List Frame} {meth : Method} {c : Code} (l : Launch) (hlt : l.stackTraces = false) {b Ln : Nat} {xs : Nat → Int32} (hL : Ln ≤ 3072) (C0 : lw_At p s m meth c b Ln xs) {D : va_G} {C Cm : Nat → ClassId} {Ad : Nat → Prop} (hAd : Ad = fun q => s.heap.size ≤ q) (hE : hm_E s) (hXX : hm_X s) (hZU : vx_Zq Bundle.tN "UNASSIGNED_STACK" Bundle.steD Ad s s.heap) (hZN : vx_Zq Bundle.tN "SUPPRESSED_SENTINEL" Bundle.listD Ad s s.heap) (hKx : va_K D vwCl (cw_t C) s) (hKm : va_K D vwCl (mw_t Cm) s) {L : List Nat} {K : Nat → cw_K} {w : Nat → Nat × Nat} {ρ : Nat → Nat} {h om : Nat} {R : Nat → Nat} {n : Nat} {i : Int} (hi : i = 6 * (n : Int)) (hn : 6 * n + 6 ≤ Ln) {z : Nat → Nat → Int} {r : Nat → Nat → Nat} {A : Nat → Nat → Int} {zm : Nat → Int} {Am : Nat → Nat → Int} {H : Heap} {locs : List Loc} {ls : Array Slot} (nxt : ∀ (z : Nat → Nat → Int) (r : Nat → Nat → Nat) (A : Nat → Nat → Int) (zm : Nat → Int) (Am : Nat → Nat → Int) (H : Heap) (locs : List Loc) (ls : Array Slot), ci_C L K r w ρ z A h → mi_I zm Am → lw_V K r h z A zm Am → va_P D vwCl (cw_w C L K z r A ++ mw_w om R Cm zm Am) H → va_D Ad (cw_w C L K z r A ++ mw_w om R Cm zm Am) → va_S Ad s.heap H locs → lv_has ls 5 [(3, .int (hz_i i)), (2, .ref om), (1, .ref h), (0, .ref b)] → W p l e room_1 s m #[Value.ref b] below meth c H locs (2341 + (n + 1)) (683873 + 6 * (n + 1)) (lw_Z below #[Value.ref b] s) (F0 m 577 ls [])) (HC : ci_C L K r w ρ z A h) (hI : mi_I zm Am) (hR : lw_V K r h z A zm Am) (hP : va_P D vwCl (cw_w C L K z r A ++ mw_w om R Cm zm Am) H) (hD : va_D Ad (cw_w C L K z r A ++ mw_w om R Cm zm Am)) (hS : va_S Ad s.heap H locs) (hl : lv_has ls 5 [(3, .int (hz_i i)), (2, .ref om), (1, .ref h), (0, .ref b)]) : W p l e room_1 s m #[Value.ref b] below meth c H locs (2341 + n) (683873 + 6 * n) (lw_Z below #[Value.ref b] s) (F0 m 179 ls []) := by
  obtain ⟨hx, hb, hr, hml, hown, hts0, hX, hbl, hlocks, hgv⟩ := id C0
  have hown : s.vm.findClass RL = some m.cls := hown
  have hts : ∀ w ∈ wsL_law, w.before #[Value.ref b] s = true := fun w h => hts0 w (wsL_law_in w h)
  have hA : ∀ q : Nat, s.heap.size ≤ q → Ad q := fun q h => by rw [hAd]; exact h
  have hbA : ¬ Ad b := by rw [hAd]; exact Nat.not_le.mpr hbl
  have I := HC.1
  have hO : cw_O L K 11 h := I.2.1.1.1
  obtain ⟨⟨⟨hRt, hR15, hR14, σ9, hσ⟩, W9⟩, J9, -⟩ := id hR
  have Gx : z h 14 = 1 → sg_R K r (r h 13) σ9 z A := fun q => (hσ q).1
  have Gm : zm 34 = 1 → mg_R (zm 32).toNat Am σ9 := fun q => (hσ (hR14.trans q)).2
  have ec : zm 34 = 1 → ∀ t, t < 2 → (ce_G K r h z A Am t ↔ me_G zm Am t) := fun q t ht => ce_me ht (Gx (hR14.trans q)) (Gm q)
  obtain ⟨T9, ps9, nt9, TK9⟩ := tk_ex (A (r (r (r h 0) 2) 0)) (z (r (r h 0) 2) 1).toNat
  have TKm := lw_tk hRt TK9
  refine lv_aload_n hx hb dL_law_179 rfl (lv_at hl 2 rfl) ?_
  obtain ⟨q8, hq8⟩ := cw_at (C := C) (z := z) (r := r) (A := A) hO.1 hO.2
  have hPc := two_P1 hP
  have hDc := two_D1 hD
  have hFc := two_F hDc hS hA
  refine va_calli (va_runV (As := []) (rest := []) ⟨hx, hb, hml, hown, hts⟩ (k_c11_read l D _ C L K z r A h (fun a z' r' A' => ci_C L K r' w ρ z' A' h ∧ z' (r' (r' h 0) 2) 1 = 0 ∧ sp_R T9 (z (r (r h 0) 2) 1) a (z' h 15) ∧ (a = 0 → z' h 14 = 1 ∧ (∃ σ, sp_G T9 σ ∧ sg_R K r' (r' h 13) σ z' A') ∧ (∀ i, i < 2 → cy_N L K r' A' (cw_g K (r' h 4) i)) ∧ ∀ i, i < 4 → z' (cw_g K (r' h 9) i) 2 = 0) ∧ (¬ a = 0 → z' h 14 = z h 14 ∧ (∀ σ, sg_R K r (r h 13) σ z A → sg_R K r' (r' h 13) σ z' A') ∧ ∀ i, i < 2 → A' (r' (cw_g K (r' h 4) i) 0) = A (r (cw_g K (r h 4) i) 0) ∧ A' (r' (cw_g K (r' h 4) i) 1) = A (r (cw_g K (r h 4) i) 1) ∧ z' (cw_g K (r' h 9) (2 + i)) 2 = z (cw_g K (r h 9) (2 + i)) 2 ∧ A' (r' (cw_g K (r' h 7) i) 0) = A (r (cw_g K (r h 7) i) 0) ∧ z' (cw_g K (r' (r' h 13) 1) i) 0 = z (cw_g K (r (r h 13) 1) i) 0)) (we_c11_read TK9 HC (fun _ z' r' A' C' e' s' g' k' => ⟨C', e', s', g', k'⟩))) (cwV 0 hts gL_law_X11_read rfl rfl rfl (by decide +kernel) ⟨Nat.le_of_ble_eq_true rfl, Nat.le_of_ble_eq_true rfl⟩) ⟨hm_blind, va_recv hKx hPc (ci := 11) (q0 := q8) rfl hq8, hm_pre hPc hKx hDc hE⟩ rfl rfl hl.1 rfl (lv_room (Nat.le_of_ble_eq_true rfl)) dL_law_180 ⟨(by show 2341 + n + 0 ≤ 601024; omega), (by show 683873 + 6 * n + 0 ≤ 7293034; omega)⟩) hS (fun q _ h => hFc q h) hFc (fun rv_1 u t H1 locs ht hvm hw hB hz1 hk1 hS => ?_)
  obtain ⟨a_rv_1, z', r', A'⟩ := u
  obtain ⟨hP1, hK1, hD1⟩ := hB
  rw [ht] at hP1
  obtain ⟨hP, hD⟩ := two_J1 hP hD hk1 hFc hP1 hD1
  generalize H1 = H at hP hS ⊢
  have hP : va_P D vwCl (cw_w C L K z' r' A' ++ mw_w om R Cm zm Am) H := hP
  have hD : va_D Ad (cw_w C L K z' r' A' ++ mw_w om R Cm zm Am) := hD
  obtain ⟨hrv, hw⟩ := hw
  subst hrv
  obtain ⟨HC', hlx, hsx, hgx, hkx⟩ := hw
  refine W.eq (g2 := F0 m 183 ls [.int (hz_i a_rv_1)]) rfl ?_
  refine lv_pop hx hb dL_law_183 rfl ?_
  refine lv_aload_n hx hb dL_law_184 rfl (lv_at hl 1 rfl) ?_
  have hPc := two_P2 hP
  have hDc := two_D2 hD
  have hFc := two_F hDc hS hA
  refine va_calli (va_runV (As := []) (rest := []) ⟨hx, hb, hml, hown, hts⟩ (k_read l D _ om R Cm zm Am (fun a z' B => mi_I z' B ∧ z' 5 = 0 ∧ sp_R T9 (zm 5) a (z' 6) ∧ (a = 0 → z' 34 = 1 ∧ (∃ σ, sp_G T9 σ ∧ mg_R (z' 32).toNat B σ) ∧ me_N B ∧ ∀ i, i < 4 → B 51 i = 0) ∧ (¬ a = 0 → z' 34 = zm 34 ∧ z' 32 = zm 32 ∧ (∀ σ, mg_R (zm 32).toNat Am σ → mg_R (zm 32).toNat B σ) ∧ B 49 = Am 49 ∧ B 50 = Am 50 ∧ B 51 = Am 51 ∧ B 53 = Am 53)) (we_read TKm hI (fun r9 z' B I' e9 s9 g9 k9 => ⟨I', e9, s9, g9, k9⟩))) (cwV 0 hts gL_law_X12_read rfl rfl rfl (by decide +kernel) ⟨Nat.le_of_ble_eq_true rfl, Nat.le_of_ble_eq_true rfl⟩) ⟨hm_blind, va_recv hKm hPc (ci := 12) (q0 := 0) rfl rfl, hm_pre hPc hKm hDc hE⟩ rfl rfl hl.1 rfl (lv_room (Nat.le_of_ble_eq_true rfl)) dL_law_185 ⟨(by show 2341 + n + 0 ≤ 601024; omega), (by show 683873 + 6 * n + 0 ≤ 7293034; omega)⟩) hS (fun q _ h => hFc q h) hFc (fun rv_2 u t H1 locs ht hvm hw hB hz1 hk1 hS => ?_)
  obtain ⟨a_rv_2, zm', B'⟩ := u
  obtain ⟨hP1, hK1, hD1⟩ := hB
  rw [ht] at hP1
  obtain ⟨hP, hD⟩ := two_J2 hP hD hk1 hFc hP1 hD1
  generalize H1 = H at hP hS ⊢
  have hP : va_P D vwCl (cw_w C L K z' r' A' ++ mw_w om R Cm zm' B') H := hP
  have hD : va_D Ad (cw_w C L K z' r' A' ++ mw_w om R Cm zm' B') := hD
  obtain ⟨hrv, hw⟩ := hw
  subst hrv
  obtain ⟨hI', hlm, hsm, hgm, hkm⟩ := hw
  obtain ⟨ea, hR'⟩ := lw_V_read (L := L) (r' := r') (A' := A') (B := B') hR hlx hsx hgx hkx hlm hsm hgm hkm
  refine W.eq (g2 := F0 m 188 ls [.int (hz_i a_rv_2)]) rfl ?_
  refine lv_pop hx hb dL_law_188 rfl ?_
  refine lv_goto (tgt := 577) hx hb dL_law_189 (by decide) ?_
  refine W.widen (k := 2341 + (n + 1)) (n := 683873 + 6 * (n + 1)) (by omega) (by omega) ?_
  exact nxt z' r' A' zm' B' H locs ls (HC') hI' (hR') hP hD hS (lv_sub hl [0, 1, 2, 3] rfl)

set_option maxHeartbeats 8000000 in
set_option maxRecDepth 100000 in
theorem law_2 {p : Program} {e : Env} {s : State} {m : MethodId} {below : List Frame} {meth : Method} {c : Code} (l : Launch) (hlt : l.stackTraces = false) {b Ln : Nat} {xs : Nat → Int32} (hL : Ln ≤ 3072) (C0 : lw_At p s m meth c b Ln xs) {D : va_G} {C Cm : Nat → ClassId} {Ad : Nat → Prop} (hAd : Ad = fun q => s.heap.size ≤ q) (hE : hm_E s) (hXX : hm_X s) (hZU : vx_Zq Bundle.tN "UNASSIGNED_STACK" Bundle.steD Ad s s.heap) (hZN : vx_Zq Bundle.tN "SUPPRESSED_SENTINEL" Bundle.listD Ad s s.heap) (hKx : va_K D vwCl (cw_t C) s) (hKm : va_K D vwCl (mw_t Cm) s) {L : List Nat} {K : Nat → cw_K} {w : Nat → Nat × Nat} {ρ : Nat → Nat} {h om : Nat} {R : Nat → Nat} {n : Nat} {i : Int} (hi : i = 6 * (n : Int)) (hn : 6 * n + 6 ≤ Ln) {z : Nat → Nat → Int} {r : Nat → Nat → Nat} {A : Nat → Nat → Int} {zm : Nat → Int} {Am : Nat → Nat → Int} {H : Heap} {locs : List Loc} {ls : Array Slot} (nxt : ∀ (z : Nat → Nat → Int) (r : Nat → Nat → Nat) (A : Nat → Nat → Int) (zm : Nat → Int) (Am : Nat → Nat → Int) (H : Heap) (locs : List Loc) (ls : Array Slot), ci_C L K r w ρ z A h → mi_I zm Am → lw_V K r h z A zm Am → va_P D vwCl (cw_w C L K z r A ++ mw_w om R Cm zm Am) H → va_D Ad (cw_w C L K z r A ++ mw_w om R Cm zm Am) → va_S Ad s.heap H locs → lv_has ls 5 [(3, .int (hz_i i)), (2, .ref om), (1, .ref h), (0, .ref b)] → W p l e room_1 s m #[Value.ref b] below meth c H locs (2341 + (n + 1)) (683873 + 6 * (n + 1)) (lw_Z below #[Value.ref b] s) (F0 m 577 ls [])) (HC : ci_C L K r w ρ z A h) (hI : mi_I zm Am) (hR : lw_V K r h z A zm Am) (hP : va_P D vwCl (cw_w C L K z r A ++ mw_w om R Cm zm Am) H) (hD : va_D Ad (cw_w C L K z r A ++ mw_w om R Cm zm Am)) (hS : va_S Ad s.heap H locs) (hl : lv_has ls 5 [(3, .int (hz_i i)), (2, .ref om), (1, .ref h), (0, .ref b)]) : W p l e room_1 s m #[Value.ref b] below meth c H locs (2341 + n) (683873 + 6 * n) (lw_Z below #[Value.ref b] s) (F0 m 192 ls []) := by
  obtain ⟨hx, hb, hr, hml, hown, hts0, hX, hbl, hlocks, hgv⟩ := id C0
  have hown : s.vm.findClass RL = some m.cls := hown
  have hts : ∀ w ∈ wsL_law, w.before #[Value.ref b] s = true := fun w h => hts0 w (wsL_law_in w h)
  have hA : ∀ q : Nat, s.heap.size ≤ q → Ad q := fun q h => by rw [hAd]; exact h
  have hbA : ¬ Ad b := by rw [hAd]; exact Nat.not_le.mpr hbl
  have I := HC.1
  have hO : cw_O L K 11 h := I.2.1.1.1
  obtain ⟨⟨⟨hRt, hR15, hR14, σ9, hσ⟩, W9⟩, J9, -⟩ := id hR
  have Gx : z h 14 = 1 → sg_R K r (r h 13) σ9 z A := fun q => (hσ q).1
  have Gm : zm 34 = 1 → mg_R (zm 32).toNat Am σ9 := fun q => (hσ (hR14.trans q)).2
  have ec : zm 34 = 1 → ∀ t, t < 2 → (ce_G K r h z A Am t ↔ me_G zm Am t) := fun q t ht => ce_me ht (Gx (hR14.trans q)) (Gm q)
  refine lv_aload_n hx hb dL_law_192 rfl (lv_at hl 2 rfl) ?_
  obtain ⟨q8, hq8⟩ := cw_at (C := C) (z := z) (r := r) (A := A) hO.1 hO.2
  have hPc := two_P1 hP
  have hDc := two_D1 hD
  have hFc := two_F hDc hS hA
  refine va_calli (va_runV (As := []) (rest := []) ⟨hx, hb, hml, hown, hts⟩ (k_c11_place l D _ C L K z r A h (fun _ => True) (wq_c11_place I (fun _ => trivial))) (cwV 0 hts gL_law_X11_place rfl rfl rfl (by decide +kernel) ⟨Nat.le_of_ble_eq_true rfl, Nat.le_of_ble_eq_true rfl⟩) ⟨hm_blind, va_recv hKx hPc (ci := 11) (q0 := q8) rfl hq8, hm_pre hPc hKx hDc hE⟩ rfl rfl hl.1 rfl (lv_room (Nat.le_of_ble_eq_true rfl)) dL_law_193 ⟨(by show 2341 + n + 0 ≤ 601024; omega), (by show 683873 + 6 * n + 0 ≤ 7293034; omega)⟩) hS (fun q _ h => hFc q h) hFc (fun rv_1 u t H1 locs ht hvm hw hB hz1 hk1 hS => ?_)
  obtain ⟨a_rv_1, _, _, _⟩ := u
  obtain ⟨hP1, hK1, hD1⟩ := hB
  rw [ht] at hP1
  obtain ⟨hP, hD⟩ := two_J1 hP hD hk1 hFc hP1 hD1
  generalize H1 = H at hP hS ⊢
  have hP : va_P D vwCl (cw_w C L K z r A ++ mw_w om R Cm zm Am) H := hP
  have hD : va_D Ad (cw_w C L K z r A ++ mw_w om R Cm zm Am) := hD
  obtain ⟨hrv, hw⟩ := hw
  subst hrv
  refine W.eq (g2 := F0 m 196 ls [.int (hz_i a_rv_1)]) rfl ?_
  refine lv_pop hx hb dL_law_196 rfl ?_
  refine lv_aload_n hx hb dL_law_197 rfl (lv_at hl 1 rfl) ?_
  have hPc := two_P2 hP
  have hDc := two_D2 hD
  have hFc := two_F hDc hS hA
  refine va_calli (va_runV (As := []) (rest := []) ⟨hx, hb, hml, hown, hts⟩ (k_place l D _ om R Cm zm Am (fun _ z' => mi_I z' Am ∧ (∀ q, q ≠ 3 → q ≠ 57 → z' q = zm q)) (wq_place hI  (fun r9 t9 I' => ⟨I', fun q hq _ => lp_U_other hq⟩))) (cwV 0 hts gL_law_X12_place rfl rfl rfl (by decide +kernel) ⟨Nat.le_of_ble_eq_true rfl, Nat.le_of_ble_eq_true rfl⟩) ⟨hm_blind, va_recv hKm hPc (ci := 12) (q0 := 0) rfl rfl, hm_pre hPc hKm hDc hE⟩ rfl rfl hl.1 rfl (lv_room (Nat.le_of_ble_eq_true rfl)) dL_law_198 ⟨(by show 2341 + n + 0 ≤ 601024; omega), (by show 683873 + 6 * n + 0 ≤ 7293034; omega)⟩) hS (fun q _ h => hFc q h) hFc (fun rv_2 u t H1 locs ht hvm hw hB hz1 hk1 hS => ?_)
  obtain ⟨a_rv_2, zm', _⟩ := u
  obtain ⟨hP1, hK1, hD1⟩ := hB
  rw [ht] at hP1
  obtain ⟨hP, hD⟩ := two_J2 hP hD hk1 hFc hP1 hD1
  generalize H1 = H at hP hS ⊢
  have hP : va_P D vwCl (cw_w C L K z r A ++ mw_w om R Cm zm' Am) H := hP
  have hD : va_D Ad (cw_w C L K z r A ++ mw_w om R Cm zm' Am) := hD
  obtain ⟨hrv, hw⟩ := hw
  subst hrv
  obtain ⟨hI', hzm⟩ := hw
  have hR' := lw_V_keep I hR (ci_E_refl _ _ _ _ _ _) hzm (me_refl _)
  refine W.eq (g2 := F0 m 201 ls [.int (hz_i a_rv_2)]) rfl ?_
  refine lv_pop hx hb dL_law_201 rfl ?_
  refine lv_goto (tgt := 577) hx hb dL_law_202 (by decide) ?_
  refine W.widen (k := 2341 + (n + 1)) (n := 683873 + 6 * (n + 1)) (by omega) (by omega) ?_
  exact nxt z r A zm' Am H locs ls (HC) hI' (hR') hP hD hS (lv_sub hl [0, 1, 2, 3] rfl)

set_option maxHeartbeats 8000000 in
set_option maxRecDepth 100000 in
theorem law_3 {p : Program} {e : Env} {s : State} {m : MethodId} {below : List Frame} {meth : Method} {c : Code} (l : Launch) (hlt : l.stackTraces = false) {b Ln : Nat} {xs : Nat → Int32} (hL : Ln ≤ 3072) (C0 : lw_At p s m meth c b Ln xs) {D : va_G} {C Cm : Nat → ClassId} {Ad : Nat → Prop} (hAd : Ad = fun q => s.heap.size ≤ q) (hE : hm_E s) (hXX : hm_X s) (hZU : vx_Zq Bundle.tN "UNASSIGNED_STACK" Bundle.steD Ad s s.heap) (hZN : vx_Zq Bundle.tN "SUPPRESSED_SENTINEL" Bundle.listD Ad s s.heap) (hKx : va_K D vwCl (cw_t C) s) (hKm : va_K D vwCl (mw_t Cm) s) {L : List Nat} {K : Nat → cw_K} {w : Nat → Nat × Nat} {ρ : Nat → Nat} {h om : Nat} {R : Nat → Nat} {n : Nat} {i : Int} (hi : i = 6 * (n : Int)) (hn : 6 * n + 6 ≤ Ln) {z : Nat → Nat → Int} {r : Nat → Nat → Nat} {A : Nat → Nat → Int} {zm : Nat → Int} {Am : Nat → Nat → Int} {H : Heap} {locs : List Loc} {ls : Array Slot} (nxt : ∀ (z : Nat → Nat → Int) (r : Nat → Nat → Nat) (A : Nat → Nat → Int) (zm : Nat → Int) (Am : Nat → Nat → Int) (H : Heap) (locs : List Loc) (ls : Array Slot), ci_C L K r w ρ z A h → mi_I zm Am → lw_V K r h z A zm Am → va_P D vwCl (cw_w C L K z r A ++ mw_w om R Cm zm Am) H → va_D Ad (cw_w C L K z r A ++ mw_w om R Cm zm Am) → va_S Ad s.heap H locs → lv_has ls 5 [(3, .int (hz_i i)), (2, .ref om), (1, .ref h), (0, .ref b)] → W p l e room_1 s m #[Value.ref b] below meth c H locs (2341 + (n + 1)) (683873 + 6 * (n + 1)) (lw_Z below #[Value.ref b] s) (F0 m 577 ls [])) (HC : ci_C L K r w ρ z A h) (hI : mi_I zm Am) (hR : lw_V K r h z A zm Am) (hP : va_P D vwCl (cw_w C L K z r A ++ mw_w om R Cm zm Am) H) (hD : va_D Ad (cw_w C L K z r A ++ mw_w om R Cm zm Am)) (hS : va_S Ad s.heap H locs) (hl : lv_has ls 5 [(3, .int (hz_i i)), (2, .ref om), (1, .ref h), (0, .ref b)]) : W p l e room_1 s m #[Value.ref b] below meth c H locs (2341 + n) (683873 + 6 * n) (lw_Z below #[Value.ref b] s) (F0 m 205 ls []) := by
  obtain ⟨hx, hb, hr, hml, hown, hts0, hX, hbl, hlocks, hgv⟩ := id C0
  have hown : s.vm.findClass RL = some m.cls := hown
  have hts : ∀ w ∈ wsL_law, w.before #[Value.ref b] s = true := fun w h => hts0 w (wsL_law_in w h)
  have hA : ∀ q : Nat, s.heap.size ≤ q → Ad q := fun q h => by rw [hAd]; exact h
  have hbA : ¬ Ad b := by rw [hAd]; exact Nat.not_le.mpr hbl
  have I := HC.1
  have hO : cw_O L K 11 h := I.2.1.1.1
  obtain ⟨⟨⟨hRt, hR15, hR14, σ9, hσ⟩, W9⟩, J9, -⟩ := id hR
  have Gx : z h 14 = 1 → sg_R K r (r h 13) σ9 z A := fun q => (hσ q).1
  have Gm : zm 34 = 1 → mg_R (zm 32).toNat Am σ9 := fun q => (hσ (hR14.trans q)).2
  have ec : zm 34 = 1 → ∀ t, t < 2 → (ce_G K r h z A Am t ↔ me_G zm Am t) := fun q t ht => ce_me ht (Gx (hR14.trans q)) (Gm q)
  refine lv_aload_n hx hb dL_law_205 rfl (lv_at hl 2 rfl) ?_
  refine lv_aload_n hx hb dL_law_206 rfl (lv_at hl 3 rfl) ?_
  refine lv_iload_n hx hb dL_law_207 rfl (lv_at hl 0 rfl) ?_
  refine lv_iconst (v := hz_i 1) hx hb dL_law_208 (by decide +kernel) ?_
  refine hz_iadd hx hb dL_law_209 ?_
  refine va_sld hx hb hX hbl hbA hS (hz_in (i := i + 1) ⟨by omega, by omega⟩ (by omega)) dL_law_210 ?_
  refine lv_topi (fun x_2 ex_2 => ?_)
  obtain ⟨y_1, ry_1, qy_1⟩ := hz_i_of x_2
  subst qy_1
  have ey_1 := ex_2
  obtain ⟨q8, hq8⟩ := cw_at (C := C) (z := z) (r := r) (A := A) hO.1 hO.2
  have hPc := two_P1 hP
  have hDc := two_D1 hD
  have hFc := two_F hDc hS hA
  refine va_calli (va_runV (As := [.int (hz_i y_1)]) (rest := []) ⟨hx, hb, hml, hown, hts⟩ (k_c11_count l D _ C L K z r A h y_1 (fun _ => True) (wq_c11_count I ry_1 (fun _ => trivial))) (cwV 1 hts gL_law_X11_count rfl rfl rfl (by decide +kernel) ⟨Nat.le_of_ble_eq_true rfl, Nat.le_of_ble_eq_true rfl⟩) ⟨hm_blind, va_recv hKx hPc (ci := 11) (q0 := q8) rfl hq8, hm_pre hPc hKx hDc hE⟩ rfl rfl hl.1 rfl (lv_room (Nat.le_of_ble_eq_true rfl)) dL_law_211 ⟨(by show 2341 + n + 0 ≤ 601024; omega), (by show 683873 + 6 * n + 0 ≤ 7293034; omega)⟩) hS (fun q _ h => hFc q h) hFc (fun rv_3 u t H1 locs ht hvm hw hB hz1 hk1 hS => ?_)
  obtain ⟨a_rv_3, _, _, _⟩ := u
  obtain ⟨hP1, hK1, hD1⟩ := hB
  rw [ht] at hP1
  obtain ⟨hP, hD⟩ := two_J1 hP hD hk1 hFc hP1 hD1
  generalize H1 = H at hP hS ⊢
  have hP : va_P D vwCl (cw_w C L K z r A ++ mw_w om R Cm zm Am) H := hP
  have hD : va_D Ad (cw_w C L K z r A ++ mw_w om R Cm zm Am) := hD
  obtain ⟨hrv, hw⟩ := hw
  subst hrv
  refine W.eq (g2 := F0 m 214 ls [.int (hz_i a_rv_3)]) rfl ?_
  refine lv_pop hx hb dL_law_214 rfl ?_
  refine lv_aload_n hx hb dL_law_215 rfl (lv_at hl 1 rfl) ?_
  refine lv_aload_n hx hb dL_law_216 rfl (lv_at hl 3 rfl) ?_
  refine lv_iload_n hx hb dL_law_217 rfl (lv_at hl 0 rfl) ?_
  refine lv_iconst (v := hz_i 1) hx hb dL_law_218 (by decide +kernel) ?_
  refine hz_iadd hx hb dL_law_219 ?_
  refine va_sld hx hb hX hbl hbA hS (hz_in (i := i + 1) ⟨by omega, by omega⟩ (by omega)) dL_law_220 ?_
  refine lv_topi (fun x_4 ex_4 => ?_)
  obtain rfl : x_4 = hz_i y_1 := ex_4.trans ey_1.symm
  have hPc := two_P2 hP
  have hDc := two_D2 hD
  have hFc := two_F hDc hS hA
  refine va_calli (va_runV (As := [.int (hz_i y_1)]) (rest := []) ⟨hx, hb, hml, hown, hts⟩ (k_count l D _ om R Cm zm Am y_1 (fun _ z' => mi_I z' Am ∧ (∀ q, q ≠ 3 → q ≠ 57 → z' q = zm q)) (wq_count hI ry_1 (fun r9 t9 I' => ⟨I', fun q hq _ => lp_U_other hq⟩))) (cwV 1 hts gL_law_X12_count rfl rfl rfl (by decide +kernel) ⟨Nat.le_of_ble_eq_true rfl, Nat.le_of_ble_eq_true rfl⟩) ⟨hm_blind, va_recv hKm hPc (ci := 12) (q0 := 0) rfl rfl, hm_pre hPc hKm hDc hE⟩ rfl rfl hl.1 rfl (lv_room (Nat.le_of_ble_eq_true rfl)) dL_law_221 ⟨(by show 2341 + n + 0 ≤ 601024; omega), (by show 683873 + 6 * n + 0 ≤ 7293034; omega)⟩) hS (fun q _ h => hFc q h) hFc (fun rv_5 u t H1 locs ht hvm hw hB hz1 hk1 hS => ?_)
  obtain ⟨a_rv_5, zm', _⟩ := u
  obtain ⟨hP1, hK1, hD1⟩ := hB
  rw [ht] at hP1
  obtain ⟨hP, hD⟩ := two_J2 hP hD hk1 hFc hP1 hD1
  generalize H1 = H at hP hS ⊢
  have hP : va_P D vwCl (cw_w C L K z r A ++ mw_w om R Cm zm' Am) H := hP
  have hD : va_D Ad (cw_w C L K z r A ++ mw_w om R Cm zm' Am) := hD
  obtain ⟨hrv, hw⟩ := hw
  subst hrv
  obtain ⟨hI', hzm⟩ := hw
  have hR' := lw_V_keep I hR (ci_E_refl _ _ _ _ _ _) hzm (me_refl _)
  refine W.eq (g2 := F0 m 224 ls [.int (hz_i a_rv_5)]) rfl ?_
  refine lv_pop hx hb dL_law_224 rfl ?_
  refine lv_goto (tgt := 577) hx hb dL_law_225 (by decide) ?_
  refine W.widen (k := 2341 + (n + 1)) (n := 683873 + 6 * (n + 1)) (by omega) (by omega) ?_
  exact nxt z r A zm' Am H locs ls (HC) hI' (hR') hP hD hS (lv_sub hl [0, 1, 2, 3] rfl)

set_option maxHeartbeats 8000000 in
set_option maxRecDepth 100000 in
theorem law_4 {p : Program} {e : Env} {s : State} {m : MethodId} {below : List Frame} {meth : Method} {c : Code} (l : Launch) (hlt : l.stackTraces = false) {b Ln : Nat} {xs : Nat → Int32} (hL : Ln ≤ 3072) (C0 : lw_At p s m meth c b Ln xs) {D : va_G} {C Cm : Nat → ClassId} {Ad : Nat → Prop} (hAd : Ad = fun q => s.heap.size ≤ q) (hE : hm_E s) (hXX : hm_X s) (hZU : vx_Zq Bundle.tN "UNASSIGNED_STACK" Bundle.steD Ad s s.heap) (hZN : vx_Zq Bundle.tN "SUPPRESSED_SENTINEL" Bundle.listD Ad s s.heap) (hKx : va_K D vwCl (cw_t C) s) (hKm : va_K D vwCl (mw_t Cm) s) {L : List Nat} {K : Nat → cw_K} {w : Nat → Nat × Nat} {ρ : Nat → Nat} {h om : Nat} {R : Nat → Nat} {n : Nat} {i : Int} (hi : i = 6 * (n : Int)) (hn : 6 * n + 6 ≤ Ln) {z : Nat → Nat → Int} {r : Nat → Nat → Nat} {A : Nat → Nat → Int} {zm : Nat → Int} {Am : Nat → Nat → Int} {H : Heap} {locs : List Loc} {ls : Array Slot} (nxt : ∀ (z : Nat → Nat → Int) (r : Nat → Nat → Nat) (A : Nat → Nat → Int) (zm : Nat → Int) (Am : Nat → Nat → Int) (H : Heap) (locs : List Loc) (ls : Array Slot), ci_C L K r w ρ z A h → mi_I zm Am → lw_V K r h z A zm Am → va_P D vwCl (cw_w C L K z r A ++ mw_w om R Cm zm Am) H → va_D Ad (cw_w C L K z r A ++ mw_w om R Cm zm Am) → va_S Ad s.heap H locs → lv_has ls 5 [(3, .int (hz_i i)), (2, .ref om), (1, .ref h), (0, .ref b)] → W p l e room_1 s m #[Value.ref b] below meth c H locs (2341 + (n + 1)) (683873 + 6 * (n + 1)) (lw_Z below #[Value.ref b] s) (F0 m 577 ls [])) (HC : ci_C L K r w ρ z A h) (hI : mi_I zm Am) (hR : lw_V K r h z A zm Am) (hP : va_P D vwCl (cw_w C L K z r A ++ mw_w om R Cm zm Am) H) (hD : va_D Ad (cw_w C L K z r A ++ mw_w om R Cm zm Am)) (hS : va_S Ad s.heap H locs) (hl : lv_has ls 5 [(3, .int (hz_i i)), (2, .ref om), (1, .ref h), (0, .ref b)]) : W p l e room_1 s m #[Value.ref b] below meth c H locs (2341 + n) (683873 + 6 * n) (lw_Z below #[Value.ref b] s) (F0 m 228 ls []) := by
  obtain ⟨hx, hb, hr, hml, hown, hts0, hX, hbl, hlocks, hgv⟩ := id C0
  have hown : s.vm.findClass RL = some m.cls := hown
  have hts : ∀ w ∈ wsL_law, w.before #[Value.ref b] s = true := fun w h => hts0 w (wsL_law_in w h)
  have hA : ∀ q : Nat, s.heap.size ≤ q → Ad q := fun q h => by rw [hAd]; exact h
  have hbA : ¬ Ad b := by rw [hAd]; exact Nat.not_le.mpr hbl
  have I := HC.1
  have hO : cw_O L K 11 h := I.2.1.1.1
  obtain ⟨⟨⟨hRt, hR15, hR14, σ9, hσ⟩, W9⟩, J9, -⟩ := id hR
  have Gx : z h 14 = 1 → sg_R K r (r h 13) σ9 z A := fun q => (hσ q).1
  have Gm : zm 34 = 1 → mg_R (zm 32).toNat Am σ9 := fun q => (hσ (hR14.trans q)).2
  have ec : zm 34 = 1 → ∀ t, t < 2 → (ce_G K r h z A Am t ↔ me_G zm Am t) := fun q t ht => ce_me ht (Gx (hR14.trans q)) (Gm q)
  refine lv_aload_n hx hb dL_law_228 rfl (lv_at hl 2 rfl) ?_
  refine lv_aload_n hx hb dL_law_229 rfl (lv_at hl 3 rfl) ?_
  refine lv_iload_n hx hb dL_law_230 rfl (lv_at hl 0 rfl) ?_
  refine lv_iconst (v := hz_i 1) hx hb dL_law_231 (by decide +kernel) ?_
  refine hz_iadd hx hb dL_law_232 ?_
  refine va_sld hx hb hX hbl hbA hS (hz_in (i := i + 1) ⟨by omega, by omega⟩ (by omega)) dL_law_233 ?_
  refine lv_topi (fun x_2 ex_2 => ?_)
  obtain ⟨y_1, ry_1, qy_1⟩ := hz_i_of x_2
  subst qy_1
  have ey_1 := ex_2
  obtain ⟨q8, hq8⟩ := cw_at (C := C) (z := z) (r := r) (A := A) hO.1 hO.2
  have hPc := two_P1 hP
  have hDc := two_D1 hD
  have hFc := two_F hDc hS hA
  refine va_calli (va_runV (As := [.int (hz_i y_1)]) (rest := []) ⟨hx, hb, hml, hown, hts⟩ (k_c11_sets l D _ C L K z r A h y_1 (fun _ => True) (wq_c11_sets I ry_1 (fun _ => trivial))) (cwV 1 hts gL_law_X11_sets rfl rfl rfl (by decide +kernel) ⟨Nat.le_of_ble_eq_true rfl, Nat.le_of_ble_eq_true rfl⟩) ⟨hm_blind, va_recv hKx hPc (ci := 11) (q0 := q8) rfl hq8, hm_pre hPc hKx hDc hE⟩ rfl rfl hl.1 rfl (lv_room (Nat.le_of_ble_eq_true rfl)) dL_law_234 ⟨(by show 2341 + n + 0 ≤ 601024; omega), (by show 683873 + 6 * n + 0 ≤ 7293034; omega)⟩) hS (fun q _ h => hFc q h) hFc (fun rv_3 u t H1 locs ht hvm hw hB hz1 hk1 hS => ?_)
  obtain ⟨a_rv_3, _, _, _⟩ := u
  obtain ⟨hP1, hK1, hD1⟩ := hB
  rw [ht] at hP1
  obtain ⟨hP, hD⟩ := two_J1 hP hD hk1 hFc hP1 hD1
  generalize H1 = H at hP hS ⊢
  have hP : va_P D vwCl (cw_w C L K z r A ++ mw_w om R Cm zm Am) H := hP
  have hD : va_D Ad (cw_w C L K z r A ++ mw_w om R Cm zm Am) := hD
  obtain ⟨hrv, hw⟩ := hw
  subst hrv
  refine W.eq (g2 := F0 m 237 ls [.int (hz_i a_rv_3)]) rfl ?_
  refine lv_pop hx hb dL_law_237 rfl ?_
  refine lv_aload_n hx hb dL_law_238 rfl (lv_at hl 1 rfl) ?_
  refine lv_aload_n hx hb dL_law_239 rfl (lv_at hl 3 rfl) ?_
  refine lv_iload_n hx hb dL_law_240 rfl (lv_at hl 0 rfl) ?_
  refine lv_iconst (v := hz_i 1) hx hb dL_law_241 (by decide +kernel) ?_
  refine hz_iadd hx hb dL_law_242 ?_
  refine va_sld hx hb hX hbl hbA hS (hz_in (i := i + 1) ⟨by omega, by omega⟩ (by omega)) dL_law_243 ?_
  refine lv_topi (fun x_4 ex_4 => ?_)
  obtain rfl : x_4 = hz_i y_1 := ex_4.trans ey_1.symm
  have hPc := two_P2 hP
  have hDc := two_D2 hD
  have hFc := two_F hDc hS hA
  refine va_calli (va_runV (As := [.int (hz_i y_1)]) (rest := []) ⟨hx, hb, hml, hown, hts⟩ (k_sets l D _ om R Cm zm Am y_1 (fun _ z' => mi_I z' Am ∧ (∀ q, q ≠ 3 → q ≠ 57 → z' q = zm q)) (wq_sets hI ry_1 (fun r9 t9 I' => ⟨I', fun q hq _ => lp_U_other hq⟩))) (cwV 1 hts gL_law_X12_sets rfl rfl rfl (by decide +kernel) ⟨Nat.le_of_ble_eq_true rfl, Nat.le_of_ble_eq_true rfl⟩) ⟨hm_blind, va_recv hKm hPc (ci := 12) (q0 := 0) rfl rfl, hm_pre hPc hKm hDc hE⟩ rfl rfl hl.1 rfl (lv_room (Nat.le_of_ble_eq_true rfl)) dL_law_244 ⟨(by show 2341 + n + 0 ≤ 601024; omega), (by show 683873 + 6 * n + 0 ≤ 7293034; omega)⟩) hS (fun q _ h => hFc q h) hFc (fun rv_5 u t H1 locs ht hvm hw hB hz1 hk1 hS => ?_)
  obtain ⟨a_rv_5, zm', _⟩ := u
  obtain ⟨hP1, hK1, hD1⟩ := hB
  rw [ht] at hP1
  obtain ⟨hP, hD⟩ := two_J2 hP hD hk1 hFc hP1 hD1
  generalize H1 = H at hP hS ⊢
  have hP : va_P D vwCl (cw_w C L K z r A ++ mw_w om R Cm zm' Am) H := hP
  have hD : va_D Ad (cw_w C L K z r A ++ mw_w om R Cm zm' Am) := hD
  obtain ⟨hrv, hw⟩ := hw
  subst hrv
  obtain ⟨hI', hzm⟩ := hw
  have hR' := lw_V_keep I hR (ci_E_refl _ _ _ _ _ _) hzm (me_refl _)
  refine W.eq (g2 := F0 m 247 ls [.int (hz_i a_rv_5)]) rfl ?_
  refine lv_pop hx hb dL_law_247 rfl ?_
  refine lv_goto (tgt := 577) hx hb dL_law_248 (by decide) ?_
  refine W.widen (k := 2341 + (n + 1)) (n := 683873 + 6 * (n + 1)) (by omega) (by omega) ?_
  exact nxt z r A zm' Am H locs ls (HC) hI' (hR') hP hD hS (lv_sub hl [0, 1, 2, 3] rfl)

set_option maxHeartbeats 8000000 in
set_option maxRecDepth 100000 in
theorem law_5 {p : Program} {e : Env} {s : State} {m : MethodId} {below : List Frame} {meth : Method} {c : Code} (l : Launch) (hlt : l.stackTraces = false) {b Ln : Nat} {xs : Nat → Int32} (hL : Ln ≤ 3072) (C0 : lw_At p s m meth c b Ln xs) {D : va_G} {C Cm : Nat → ClassId} {Ad : Nat → Prop} (hAd : Ad = fun q => s.heap.size ≤ q) (hE : hm_E s) (hXX : hm_X s) (hZU : vx_Zq Bundle.tN "UNASSIGNED_STACK" Bundle.steD Ad s s.heap) (hZN : vx_Zq Bundle.tN "SUPPRESSED_SENTINEL" Bundle.listD Ad s s.heap) (hKx : va_K D vwCl (cw_t C) s) (hKm : va_K D vwCl (mw_t Cm) s) {L : List Nat} {K : Nat → cw_K} {w : Nat → Nat × Nat} {ρ : Nat → Nat} {h om : Nat} {R : Nat → Nat} {n : Nat} {i : Int} (hi : i = 6 * (n : Int)) (hn : 6 * n + 6 ≤ Ln) {z : Nat → Nat → Int} {r : Nat → Nat → Nat} {A : Nat → Nat → Int} {zm : Nat → Int} {Am : Nat → Nat → Int} {H : Heap} {locs : List Loc} {ls : Array Slot} (nxt : ∀ (z : Nat → Nat → Int) (r : Nat → Nat → Nat) (A : Nat → Nat → Int) (zm : Nat → Int) (Am : Nat → Nat → Int) (H : Heap) (locs : List Loc) (ls : Array Slot), ci_C L K r w ρ z A h → mi_I zm Am → lw_V K r h z A zm Am → va_P D vwCl (cw_w C L K z r A ++ mw_w om R Cm zm Am) H → va_D Ad (cw_w C L K z r A ++ mw_w om R Cm zm Am) → va_S Ad s.heap H locs → lv_has ls 5 [(3, .int (hz_i i)), (2, .ref om), (1, .ref h), (0, .ref b)] → W p l e room_1 s m #[Value.ref b] below meth c H locs (2341 + (n + 1)) (683873 + 6 * (n + 1)) (lw_Z below #[Value.ref b] s) (F0 m 577 ls [])) (HC : ci_C L K r w ρ z A h) (hI : mi_I zm Am) (hR : lw_V K r h z A zm Am) (hP : va_P D vwCl (cw_w C L K z r A ++ mw_w om R Cm zm Am) H) (hD : va_D Ad (cw_w C L K z r A ++ mw_w om R Cm zm Am)) (hS : va_S Ad s.heap H locs) (hl : lv_has ls 5 [(3, .int (hz_i i)), (2, .ref om), (1, .ref h), (0, .ref b)]) : W p l e room_1 s m #[Value.ref b] below meth c H locs (2341 + n) (683873 + 6 * n) (lw_Z below #[Value.ref b] s) (F0 m 251 ls []) := by
  obtain ⟨hx, hb, hr, hml, hown, hts0, hX, hbl, hlocks, hgv⟩ := id C0
  have hown : s.vm.findClass RL = some m.cls := hown
  have hts : ∀ w ∈ wsL_law, w.before #[Value.ref b] s = true := fun w h => hts0 w (wsL_law_in w h)
  have hA : ∀ q : Nat, s.heap.size ≤ q → Ad q := fun q h => by rw [hAd]; exact h
  have hbA : ¬ Ad b := by rw [hAd]; exact Nat.not_le.mpr hbl
  have I := HC.1
  have hO : cw_O L K 11 h := I.2.1.1.1
  obtain ⟨⟨⟨hRt, hR15, hR14, σ9, hσ⟩, W9⟩, J9, -⟩ := id hR
  have Gx : z h 14 = 1 → sg_R K r (r h 13) σ9 z A := fun q => (hσ q).1
  have Gm : zm 34 = 1 → mg_R (zm 32).toNat Am σ9 := fun q => (hσ (hR14.trans q)).2
  have ec : zm 34 = 1 → ∀ t, t < 2 → (ce_G K r h z A Am t ↔ me_G zm Am t) := fun q t ht => ce_me ht (Gx (hR14.trans q)) (Gm q)
  refine lv_aload_n hx hb dL_law_251 rfl (lv_at hl 2 rfl) ?_
  refine lv_aload_n hx hb dL_law_252 rfl (lv_at hl 3 rfl) ?_
  refine lv_iload_n hx hb dL_law_253 rfl (lv_at hl 0 rfl) ?_
  refine lv_iconst (v := hz_i 1) hx hb dL_law_254 (by decide +kernel) ?_
  refine hz_iadd hx hb dL_law_255 ?_
  refine va_sld hx hb hX hbl hbA hS (hz_in (i := i + 1) ⟨by omega, by omega⟩ (by omega)) dL_law_256 ?_
  refine lv_topi (fun x_2 ex_2 => ?_)
  obtain ⟨y_1, ry_1, qy_1⟩ := hz_i_of x_2
  subst qy_1
  have ey_1 := ex_2
  refine lv_aload_n hx hb dL_law_257 rfl (lv_at hl 3 rfl) ?_
  refine lv_iload_n hx hb dL_law_258 rfl (lv_at hl 0 rfl) ?_
  refine lv_iconst (v := hz_i 2) hx hb dL_law_259 (by decide +kernel) ?_
  refine hz_iadd hx hb dL_law_260 ?_
  refine va_sld hx hb hX hbl hbA hS (hz_in (i := i + 2) ⟨by omega, by omega⟩ (by omega)) dL_law_261 ?_
  refine lv_topi (fun x_4 ex_4 => ?_)
  obtain ⟨y_3, ry_3, qy_3⟩ := hz_i_of x_4
  subst qy_3
  have ey_3 := ex_4
  refine lv_aload_n hx hb dL_law_262 rfl (lv_at hl 3 rfl) ?_
  refine lv_iload_n hx hb dL_law_263 rfl (lv_at hl 0 rfl) ?_
  refine lv_iconst (v := hz_i 3) hx hb dL_law_264 (by decide +kernel) ?_
  refine hz_iadd hx hb dL_law_265 ?_
  refine va_sld hx hb hX hbl hbA hS (hz_in (i := i + 3) ⟨by omega, by omega⟩ (by omega)) dL_law_266 ?_
  refine lv_topi (fun x_6 ex_6 => ?_)
  obtain ⟨y_5, ry_5, qy_5⟩ := hz_i_of x_6
  subst qy_5
  have ey_5 := ex_6
  obtain ⟨q8, hq8⟩ := cw_at (C := C) (z := z) (r := r) (A := A) hO.1 hO.2
  have hPc := two_P1 hP
  have hDc := two_D1 hD
  have hFc := two_F hDc hS hA
  refine va_calli (va_runV (As := [.int (hz_i y_1), .int (hz_i y_3), .int (hz_i y_5)]) (rest := []) ⟨hx, hb, hml, hown, hts⟩ (k_c11_set l D _ C L K z r A h y_1 y_3 y_5 (fun _ => True) (wq_c11_set I ry_1 ry_3 ry_5 (fun _ => trivial))) (cwV 3 hts gL_law_X11_set rfl rfl rfl (by decide +kernel) ⟨Nat.le_of_ble_eq_true rfl, Nat.le_of_ble_eq_true rfl⟩) ⟨hm_blind, va_recv hKx hPc (ci := 11) (q0 := q8) rfl hq8, hm_pre hPc hKx hDc hE⟩ rfl rfl hl.1 rfl (lv_room (Nat.le_of_ble_eq_true rfl)) dL_law_267 ⟨(by show 2341 + n + 0 ≤ 601024; omega), (by show 683873 + 6 * n + 0 ≤ 7293034; omega)⟩) hS (fun q _ h => hFc q h) hFc (fun rv_7 u t H1 locs ht hvm hw hB hz1 hk1 hS => ?_)
  obtain ⟨a_rv_7, _, _, _⟩ := u
  obtain ⟨hP1, hK1, hD1⟩ := hB
  rw [ht] at hP1
  obtain ⟨hP, hD⟩ := two_J1 hP hD hk1 hFc hP1 hD1
  generalize H1 = H at hP hS ⊢
  have hP : va_P D vwCl (cw_w C L K z r A ++ mw_w om R Cm zm Am) H := hP
  have hD : va_D Ad (cw_w C L K z r A ++ mw_w om R Cm zm Am) := hD
  obtain ⟨hrv, hw⟩ := hw
  subst hrv
  refine W.eq (g2 := F0 m 270 ls [.int (hz_i a_rv_7)]) rfl ?_
  refine lv_pop hx hb dL_law_270 rfl ?_
  refine lv_aload_n hx hb dL_law_271 rfl (lv_at hl 1 rfl) ?_
  refine lv_aload_n hx hb dL_law_272 rfl (lv_at hl 3 rfl) ?_
  refine lv_iload_n hx hb dL_law_273 rfl (lv_at hl 0 rfl) ?_
  refine lv_iconst (v := hz_i 1) hx hb dL_law_274 (by decide +kernel) ?_
  refine hz_iadd hx hb dL_law_275 ?_
  refine va_sld hx hb hX hbl hbA hS (hz_in (i := i + 1) ⟨by omega, by omega⟩ (by omega)) dL_law_276 ?_
  refine lv_topi (fun x_8 ex_8 => ?_)
  obtain rfl : x_8 = hz_i y_1 := ex_8.trans ey_1.symm
  refine lv_aload_n hx hb dL_law_277 rfl (lv_at hl 3 rfl) ?_
  refine lv_iload_n hx hb dL_law_278 rfl (lv_at hl 0 rfl) ?_
  refine lv_iconst (v := hz_i 2) hx hb dL_law_279 (by decide +kernel) ?_
  refine hz_iadd hx hb dL_law_280 ?_
  refine va_sld hx hb hX hbl hbA hS (hz_in (i := i + 2) ⟨by omega, by omega⟩ (by omega)) dL_law_281 ?_
  refine lv_topi (fun x_9 ex_9 => ?_)
  obtain rfl : x_9 = hz_i y_3 := ex_9.trans ey_3.symm
  refine lv_aload_n hx hb dL_law_282 rfl (lv_at hl 3 rfl) ?_
  refine lv_iload_n hx hb dL_law_283 rfl (lv_at hl 0 rfl) ?_
  refine lv_iconst (v := hz_i 3) hx hb dL_law_284 (by decide +kernel) ?_
  refine hz_iadd hx hb dL_law_285 ?_
  refine va_sld hx hb hX hbl hbA hS (hz_in (i := i + 3) ⟨by omega, by omega⟩ (by omega)) dL_law_286 ?_
  refine lv_topi (fun x_10 ex_10 => ?_)
  obtain rfl : x_10 = hz_i y_5 := ex_10.trans ey_5.symm
  have hPc := two_P2 hP
  have hDc := two_D2 hD
  have hFc := two_F hDc hS hA
  refine va_calli (va_runV (As := [.int (hz_i y_1), .int (hz_i y_3), .int (hz_i y_5)]) (rest := []) ⟨hx, hb, hml, hown, hts⟩ (k_set l D _ om R Cm zm Am y_1 y_3 y_5 (fun _ z' => mi_I z' Am ∧ (∀ q, q ≠ 3 → q ≠ 57 → z' q = zm q)) (wq_set hI ry_1 ry_3 ry_5 (fun r9 t9 I' => ⟨I', fun q hq _ => lp_U_other hq⟩))) (cwV 3 hts gL_law_X12_set rfl rfl rfl (by decide +kernel) ⟨Nat.le_of_ble_eq_true rfl, Nat.le_of_ble_eq_true rfl⟩) ⟨hm_blind, va_recv hKm hPc (ci := 12) (q0 := 0) rfl rfl, hm_pre hPc hKm hDc hE⟩ rfl rfl hl.1 rfl (lv_room (Nat.le_of_ble_eq_true rfl)) dL_law_287 ⟨(by show 2341 + n + 0 ≤ 601024; omega), (by show 683873 + 6 * n + 0 ≤ 7293034; omega)⟩) hS (fun q _ h => hFc q h) hFc (fun rv_11 u t H1 locs ht hvm hw hB hz1 hk1 hS => ?_)
  obtain ⟨a_rv_11, zm', _⟩ := u
  obtain ⟨hP1, hK1, hD1⟩ := hB
  rw [ht] at hP1
  obtain ⟨hP, hD⟩ := two_J2 hP hD hk1 hFc hP1 hD1
  generalize H1 = H at hP hS ⊢
  have hP : va_P D vwCl (cw_w C L K z r A ++ mw_w om R Cm zm' Am) H := hP
  have hD : va_D Ad (cw_w C L K z r A ++ mw_w om R Cm zm' Am) := hD
  obtain ⟨hrv, hw⟩ := hw
  subst hrv
  obtain ⟨hI', hzm⟩ := hw
  have hR' := lw_V_keep I hR (ci_E_refl _ _ _ _ _ _) hzm (me_refl _)
  refine W.eq (g2 := F0 m 290 ls [.int (hz_i a_rv_11)]) rfl ?_
  refine lv_pop hx hb dL_law_290 rfl ?_
  refine lv_goto (tgt := 577) hx hb dL_law_291 (by decide) ?_
  refine W.widen (k := 2341 + (n + 1)) (n := 683873 + 6 * (n + 1)) (by omega) (by omega) ?_
  exact nxt z r A zm' Am H locs ls (HC) hI' (hR') hP hD hS (lv_sub hl [0, 1, 2, 3] rfl)

set_option maxHeartbeats 8000000 in
set_option maxRecDepth 100000 in
theorem law_6 {p : Program} {e : Env} {s : State} {m : MethodId} {below : List Frame} {meth : Method} {c : Code} (l : Launch) (hlt : l.stackTraces = false) {b Ln : Nat} {xs : Nat → Int32} (hL : Ln ≤ 3072) (C0 : lw_At p s m meth c b Ln xs) {D : va_G} {C Cm : Nat → ClassId} {Ad : Nat → Prop} (hAd : Ad = fun q => s.heap.size ≤ q) (hE : hm_E s) (hXX : hm_X s) (hZU : vx_Zq Bundle.tN "UNASSIGNED_STACK" Bundle.steD Ad s s.heap) (hZN : vx_Zq Bundle.tN "SUPPRESSED_SENTINEL" Bundle.listD Ad s s.heap) (hKx : va_K D vwCl (cw_t C) s) (hKm : va_K D vwCl (mw_t Cm) s) {L : List Nat} {K : Nat → cw_K} {w : Nat → Nat × Nat} {ρ : Nat → Nat} {h om : Nat} {R : Nat → Nat} {n : Nat} {i : Int} (hi : i = 6 * (n : Int)) (hn : 6 * n + 6 ≤ Ln) {z : Nat → Nat → Int} {r : Nat → Nat → Nat} {A : Nat → Nat → Int} {zm : Nat → Int} {Am : Nat → Nat → Int} {H : Heap} {locs : List Loc} {ls : Array Slot} (nxt : ∀ (z : Nat → Nat → Int) (r : Nat → Nat → Nat) (A : Nat → Nat → Int) (zm : Nat → Int) (Am : Nat → Nat → Int) (H : Heap) (locs : List Loc) (ls : Array Slot), ci_C L K r w ρ z A h → mi_I zm Am → lw_V K r h z A zm Am → va_P D vwCl (cw_w C L K z r A ++ mw_w om R Cm zm Am) H → va_D Ad (cw_w C L K z r A ++ mw_w om R Cm zm Am) → va_S Ad s.heap H locs → lv_has ls 5 [(3, .int (hz_i i)), (2, .ref om), (1, .ref h), (0, .ref b)] → W p l e room_1 s m #[Value.ref b] below meth c H locs (2341 + (n + 1)) (683873 + 6 * (n + 1)) (lw_Z below #[Value.ref b] s) (F0 m 577 ls [])) (HC : ci_C L K r w ρ z A h) (hI : mi_I zm Am) (hR : lw_V K r h z A zm Am) (hP : va_P D vwCl (cw_w C L K z r A ++ mw_w om R Cm zm Am) H) (hD : va_D Ad (cw_w C L K z r A ++ mw_w om R Cm zm Am)) (hS : va_S Ad s.heap H locs) (hl : lv_has ls 5 [(3, .int (hz_i i)), (2, .ref om), (1, .ref h), (0, .ref b)]) : W p l e room_1 s m #[Value.ref b] below meth c H locs (2341 + n) (683873 + 6 * n) (lw_Z below #[Value.ref b] s) (F0 m 294 ls []) := by
  obtain ⟨hx, hb, hr, hml, hown, hts0, hX, hbl, hlocks, hgv⟩ := id C0
  have hown : s.vm.findClass RL = some m.cls := hown
  have hts : ∀ w ∈ wsL_law, w.before #[Value.ref b] s = true := fun w h => hts0 w (wsL_law_in w h)
  have hA : ∀ q : Nat, s.heap.size ≤ q → Ad q := fun q h => by rw [hAd]; exact h
  have hbA : ¬ Ad b := by rw [hAd]; exact Nat.not_le.mpr hbl
  have I := HC.1
  have hO : cw_O L K 11 h := I.2.1.1.1
  obtain ⟨⟨⟨hRt, hR15, hR14, σ9, hσ⟩, W9⟩, J9, -⟩ := id hR
  have Gx : z h 14 = 1 → sg_R K r (r h 13) σ9 z A := fun q => (hσ q).1
  have Gm : zm 34 = 1 → mg_R (zm 32).toNat Am σ9 := fun q => (hσ (hR14.trans q)).2
  have ec : zm 34 = 1 → ∀ t, t < 2 → (ce_G K r h z A Am t ↔ me_G zm Am t) := fun q t ht => ce_me ht (Gx (hR14.trans q)) (Gm q)
  refine lv_aload_n hx hb dL_law_294 rfl (lv_at hl 2 rfl) ?_
  refine lv_aload_n hx hb dL_law_295 rfl (lv_at hl 3 rfl) ?_
  refine lv_iload_n hx hb dL_law_296 rfl (lv_at hl 0 rfl) ?_
  refine lv_iconst (v := hz_i 1) hx hb dL_law_297 (by decide +kernel) ?_
  refine hz_iadd hx hb dL_law_298 ?_
  refine va_sld hx hb hX hbl hbA hS (hz_in (i := i + 1) ⟨by omega, by omega⟩ (by omega)) dL_law_299 ?_
  refine lv_topi (fun x_2 ex_2 => ?_)
  obtain ⟨y_1, ry_1, qy_1⟩ := hz_i_of x_2
  subst qy_1
  have ey_1 := ex_2
  obtain ⟨q8, hq8⟩ := cw_at (C := C) (z := z) (r := r) (A := A) hO.1 hO.2
  have hPc := two_P1 hP
  have hDc := two_D1 hD
  have hFc := two_F hDc hS hA
  refine va_calli (va_runV (As := [.int (hz_i y_1)]) (rest := []) ⟨hx, hb, hml, hown, hts⟩ (k_c11_plans l D _ C L K z r A h y_1 (fun _ => True) (wq_c11_plans I ry_1 (fun _ => trivial))) (cwV 1 hts gL_law_X11_plans rfl rfl rfl (by decide +kernel) ⟨Nat.le_of_ble_eq_true rfl, Nat.le_of_ble_eq_true rfl⟩) ⟨hm_blind, va_recv hKx hPc (ci := 11) (q0 := q8) rfl hq8, hm_pre hPc hKx hDc hE⟩ rfl rfl hl.1 rfl (lv_room (Nat.le_of_ble_eq_true rfl)) dL_law_300 ⟨(by show 2341 + n + 0 ≤ 601024; omega), (by show 683873 + 6 * n + 0 ≤ 7293034; omega)⟩) hS (fun q _ h => hFc q h) hFc (fun rv_3 u t H1 locs ht hvm hw hB hz1 hk1 hS => ?_)
  obtain ⟨a_rv_3, _, _, _⟩ := u
  obtain ⟨hP1, hK1, hD1⟩ := hB
  rw [ht] at hP1
  obtain ⟨hP, hD⟩ := two_J1 hP hD hk1 hFc hP1 hD1
  generalize H1 = H at hP hS ⊢
  have hP : va_P D vwCl (cw_w C L K z r A ++ mw_w om R Cm zm Am) H := hP
  have hD : va_D Ad (cw_w C L K z r A ++ mw_w om R Cm zm Am) := hD
  obtain ⟨hrv, hw⟩ := hw
  subst hrv
  refine W.eq (g2 := F0 m 303 ls [.int (hz_i a_rv_3)]) rfl ?_
  refine lv_pop hx hb dL_law_303 rfl ?_
  refine lv_aload_n hx hb dL_law_304 rfl (lv_at hl 1 rfl) ?_
  refine lv_aload_n hx hb dL_law_305 rfl (lv_at hl 3 rfl) ?_
  refine lv_iload_n hx hb dL_law_306 rfl (lv_at hl 0 rfl) ?_
  refine lv_iconst (v := hz_i 1) hx hb dL_law_307 (by decide +kernel) ?_
  refine hz_iadd hx hb dL_law_308 ?_
  refine va_sld hx hb hX hbl hbA hS (hz_in (i := i + 1) ⟨by omega, by omega⟩ (by omega)) dL_law_309 ?_
  refine lv_topi (fun x_4 ex_4 => ?_)
  obtain rfl : x_4 = hz_i y_1 := ex_4.trans ey_1.symm
  have hPc := two_P2 hP
  have hDc := two_D2 hD
  have hFc := two_F hDc hS hA
  refine va_calli (va_runV (As := [.int (hz_i y_1)]) (rest := []) ⟨hx, hb, hml, hown, hts⟩ (k_plans l D _ om R Cm zm Am y_1 (fun _ z' => mi_I z' Am ∧ (∀ q, q ≠ 3 → q ≠ 57 → z' q = zm q)) (wq_plans hI ry_1 (fun r9 t9 I' => ⟨I', fun q hq _ => lp_U_other hq⟩))) (cwV 1 hts gL_law_X12_plans rfl rfl rfl (by decide +kernel) ⟨Nat.le_of_ble_eq_true rfl, Nat.le_of_ble_eq_true rfl⟩) ⟨hm_blind, va_recv hKm hPc (ci := 12) (q0 := 0) rfl rfl, hm_pre hPc hKm hDc hE⟩ rfl rfl hl.1 rfl (lv_room (Nat.le_of_ble_eq_true rfl)) dL_law_310 ⟨(by show 2341 + n + 0 ≤ 601024; omega), (by show 683873 + 6 * n + 0 ≤ 7293034; omega)⟩) hS (fun q _ h => hFc q h) hFc (fun rv_5 u t H1 locs ht hvm hw hB hz1 hk1 hS => ?_)
  obtain ⟨a_rv_5, zm', _⟩ := u
  obtain ⟨hP1, hK1, hD1⟩ := hB
  rw [ht] at hP1
  obtain ⟨hP, hD⟩ := two_J2 hP hD hk1 hFc hP1 hD1
  generalize H1 = H at hP hS ⊢
  have hP : va_P D vwCl (cw_w C L K z r A ++ mw_w om R Cm zm' Am) H := hP
  have hD : va_D Ad (cw_w C L K z r A ++ mw_w om R Cm zm' Am) := hD
  obtain ⟨hrv, hw⟩ := hw
  subst hrv
  obtain ⟨hI', hzm⟩ := hw
  have hR' := lw_V_keep I hR (ci_E_refl _ _ _ _ _ _) hzm (me_refl _)
  refine W.eq (g2 := F0 m 313 ls [.int (hz_i a_rv_5)]) rfl ?_
  refine lv_pop hx hb dL_law_313 rfl ?_
  refine lv_goto (tgt := 577) hx hb dL_law_314 (by decide) ?_
  refine W.widen (k := 2341 + (n + 1)) (n := 683873 + 6 * (n + 1)) (by omega) (by omega) ?_
  exact nxt z r A zm' Am H locs ls (HC) hI' (hR') hP hD hS (lv_sub hl [0, 1, 2, 3] rfl)

set_option maxHeartbeats 8000000 in
set_option maxRecDepth 100000 in
theorem law_7 {p : Program} {e : Env} {s : State} {m : MethodId} {below : List Frame} {meth : Method} {c : Code} (l : Launch) (hlt : l.stackTraces = false) {b Ln : Nat} {xs : Nat → Int32} (hL : Ln ≤ 3072) (C0 : lw_At p s m meth c b Ln xs) {D : va_G} {C Cm : Nat → ClassId} {Ad : Nat → Prop} (hAd : Ad = fun q => s.heap.size ≤ q) (hE : hm_E s) (hXX : hm_X s) (hZU : vx_Zq Bundle.tN "UNASSIGNED_STACK" Bundle.steD Ad s s.heap) (hZN : vx_Zq Bundle.tN "SUPPRESSED_SENTINEL" Bundle.listD Ad s s.heap) (hKx : va_K D vwCl (cw_t C) s) (hKm : va_K D vwCl (mw_t Cm) s) {L : List Nat} {K : Nat → cw_K} {w : Nat → Nat × Nat} {ρ : Nat → Nat} {h om : Nat} {R : Nat → Nat} {n : Nat} {i : Int} (hi : i = 6 * (n : Int)) (hn : 6 * n + 6 ≤ Ln) {z : Nat → Nat → Int} {r : Nat → Nat → Nat} {A : Nat → Nat → Int} {zm : Nat → Int} {Am : Nat → Nat → Int} {H : Heap} {locs : List Loc} {ls : Array Slot} (nxt : ∀ (z : Nat → Nat → Int) (r : Nat → Nat → Nat) (A : Nat → Nat → Int) (zm : Nat → Int) (Am : Nat → Nat → Int) (H : Heap) (locs : List Loc) (ls : Array Slot), ci_C L K r w ρ z A h → mi_I zm Am → lw_V K r h z A zm Am → va_P D vwCl (cw_w C L K z r A ++ mw_w om R Cm zm Am) H → va_D Ad (cw_w C L K z r A ++ mw_w om R Cm zm Am) → va_S Ad s.heap H locs → lv_has ls 5 [(3, .int (hz_i i)), (2, .ref om), (1, .ref h), (0, .ref b)] → W p l e room_1 s m #[Value.ref b] below meth c H locs (2341 + (n + 1)) (683873 + 6 * (n + 1)) (lw_Z below #[Value.ref b] s) (F0 m 577 ls [])) (HC : ci_C L K r w ρ z A h) (hI : mi_I zm Am) (hR : lw_V K r h z A zm Am) (hP : va_P D vwCl (cw_w C L K z r A ++ mw_w om R Cm zm Am) H) (hD : va_D Ad (cw_w C L K z r A ++ mw_w om R Cm zm Am)) (hS : va_S Ad s.heap H locs) (hl : lv_has ls 5 [(3, .int (hz_i i)), (2, .ref om), (1, .ref h), (0, .ref b)]) : W p l e room_1 s m #[Value.ref b] below meth c H locs (2341 + n) (683873 + 6 * n) (lw_Z below #[Value.ref b] s) (F0 m 317 ls []) := by
  obtain ⟨hx, hb, hr, hml, hown, hts0, hX, hbl, hlocks, hgv⟩ := id C0
  have hown : s.vm.findClass RL = some m.cls := hown
  have hts : ∀ w ∈ wsL_law, w.before #[Value.ref b] s = true := fun w h => hts0 w (wsL_law_in w h)
  have hA : ∀ q : Nat, s.heap.size ≤ q → Ad q := fun q h => by rw [hAd]; exact h
  have hbA : ¬ Ad b := by rw [hAd]; exact Nat.not_le.mpr hbl
  have I := HC.1
  have hO : cw_O L K 11 h := I.2.1.1.1
  obtain ⟨⟨⟨hRt, hR15, hR14, σ9, hσ⟩, W9⟩, J9, -⟩ := id hR
  have Gx : z h 14 = 1 → sg_R K r (r h 13) σ9 z A := fun q => (hσ q).1
  have Gm : zm 34 = 1 → mg_R (zm 32).toNat Am σ9 := fun q => (hσ (hR14.trans q)).2
  have ec : zm 34 = 1 → ∀ t, t < 2 → (ce_G K r h z A Am t ↔ me_G zm Am t) := fun q t ht => ce_me ht (Gx (hR14.trans q)) (Gm q)
  refine lv_aload_n hx hb dL_law_317 rfl (lv_at hl 2 rfl) ?_
  refine lv_aload_n hx hb dL_law_318 rfl (lv_at hl 3 rfl) ?_
  refine lv_iload_n hx hb dL_law_319 rfl (lv_at hl 0 rfl) ?_
  refine lv_iconst (v := hz_i 1) hx hb dL_law_320 (by decide +kernel) ?_
  refine hz_iadd hx hb dL_law_321 ?_
  refine va_sld hx hb hX hbl hbA hS (hz_in (i := i + 1) ⟨by omega, by omega⟩ (by omega)) dL_law_322 ?_
  refine lv_topi (fun x_2 ex_2 => ?_)
  obtain ⟨y_1, ry_1, qy_1⟩ := hz_i_of x_2
  subst qy_1
  have ey_1 := ex_2
  refine lv_aload_n hx hb dL_law_323 rfl (lv_at hl 3 rfl) ?_
  refine lv_iload_n hx hb dL_law_324 rfl (lv_at hl 0 rfl) ?_
  refine lv_iconst (v := hz_i 2) hx hb dL_law_325 (by decide +kernel) ?_
  refine hz_iadd hx hb dL_law_326 ?_
  refine va_sld hx hb hX hbl hbA hS (hz_in (i := i + 2) ⟨by omega, by omega⟩ (by omega)) dL_law_327 ?_
  refine lv_topi (fun x_4 ex_4 => ?_)
  obtain ⟨y_3, ry_3, qy_3⟩ := hz_i_of x_4
  subst qy_3
  have ey_3 := ex_4
  refine lv_aload_n hx hb dL_law_328 rfl (lv_at hl 3 rfl) ?_
  refine lv_iload_n hx hb dL_law_329 rfl (lv_at hl 0 rfl) ?_
  refine lv_iconst (v := hz_i 3) hx hb dL_law_330 (by decide +kernel) ?_
  refine hz_iadd hx hb dL_law_331 ?_
  refine va_sld hx hb hX hbl hbA hS (hz_in (i := i + 3) ⟨by omega, by omega⟩ (by omega)) dL_law_332 ?_
  refine lv_topi (fun x_6 ex_6 => ?_)
  obtain ⟨y_5, ry_5, qy_5⟩ := hz_i_of x_6
  subst qy_5
  have ey_5 := ex_6
  refine lv_aload_n hx hb dL_law_333 rfl (lv_at hl 3 rfl) ?_
  refine lv_iload_n hx hb dL_law_334 rfl (lv_at hl 0 rfl) ?_
  refine lv_iconst (v := hz_i 4) hx hb dL_law_335 (by decide +kernel) ?_
  refine hz_iadd hx hb dL_law_336 ?_
  refine va_sld hx hb hX hbl hbA hS (hz_in (i := i + 4) ⟨by omega, by omega⟩ (by omega)) dL_law_337 ?_
  refine lv_topi (fun x_8 ex_8 => ?_)
  obtain ⟨y_7, ry_7, qy_7⟩ := hz_i_of x_8
  subst qy_7
  have ey_7 := ex_8
  refine lv_aload_n hx hb dL_law_338 rfl (lv_at hl 3 rfl) ?_
  refine lv_iload_n hx hb dL_law_339 rfl (lv_at hl 0 rfl) ?_
  refine lv_iconst (v := hz_i 5) hx hb dL_law_340 (by decide +kernel) ?_
  refine hz_iadd hx hb dL_law_341 ?_
  refine va_sld hx hb hX hbl hbA hS (hz_in (i := i + 5) ⟨by omega, by omega⟩ (by omega)) dL_law_342 ?_
  refine lv_topi (fun x_10 ex_10 => ?_)
  obtain ⟨y_9, ry_9, qy_9⟩ := hz_i_of x_10
  subst qy_9
  have ey_9 := ex_10
  have hPc := two_P1 hP
  have hDc := two_D1 hD
  have hFc := two_F hDc hS hA
  refine va_calli (vx_runSW (As := [.ref h, .int (hz_i y_1), .int (hz_i y_3), .int (hz_i y_5), .int (hz_i y_7), .int (hz_i y_9)]) (rest := []) ⟨hx, hb, hml, hown, hts⟩ (kw_tell l hlt D _ C L K z r A h y_1 y_3 y_5 y_7 y_9 (fun k9 z' A' => (ci_I L K r w ρ z' A' h ∧ ci_D ρ h z A z' A') ∧ la_tell (z h 14) σ9 y_1 y_3 y_5 y_7 y_9 k9 ∧ lw_tx K r h A A' y_1 y_3 y_5 y_7 y_9 k9 ∧ lw_tj K r h z A z' A' y_1 y_3 y_5 k9) hO (wx_c11_tell I ry_1 ry_3 ry_5 ry_7 ry_9 Gx (fun A' I' d' l9 o9 p9 m9 b9 c9 => ⟨⟨I', d'⟩, l9, ⟨fun q => absurd rfl q, fun _ => ⟨b9, c9.1, o9, p9, m9⟩⟩, rfl, c9.2.2, fun _ => c9.2.1⟩) (fun l9 => Or.inl ⟨rfl, ⟨I, ci_D_refl _ _ _ _⟩, l9, ⟨fun _ => rfl, fun q => absurd q (by decide)⟩, rfl, fun _ _ => rfl, fun q => absurd q (by decide)⟩) (fun l9 => Or.inr ⟨rfl, ⟨I, ci_D_refl _ _ _ _⟩, l9, ⟨fun _ => rfl, fun q => absurd q (by decide)⟩, rfl, fun _ _ => rfl, fun q => absurd q (by decide)⟩))) (vx_cwSW 6 hts gL_law_L_tell rfl rfl rfl (by decide +kernel) ⟨Nat.le_of_ble_eq_true rfl, Nat.le_of_ble_eq_true rfl⟩) ⟨hm_blindX, hm_preX hPc hKx hDc hE hXX (hZU.kept hS.2.1) (hZN.kept hS.2.1) hFc⟩ rfl rfl hl.1 rfl (lv_room (Nat.le_of_ble_eq_true rfl)) dL_law_343 ⟨(by show 2341 + n + 1 ≤ 601024; omega), (by show 683873 + 6 * n + 6 ≤ 7293034; omega)⟩) hS (fun q _ h => hFc q h) hFc (fun rv_11 u t H1 locs ht hvm hw hB hz1 hk1 hS => ?_)
  obtain ⟨_, z', _, A'⟩ := u
  obtain ⟨hP1, hK1, hD1⟩ := hB
  rw [ht] at hP1
  obtain ⟨hP, hD⟩ := two_J1 hP hD hk1 hFc hP1 hD1
  generalize H1 = H at hP hS ⊢
  have hP : va_P D vwCl (cw_w C L K z' r A' ++ mw_w om R Cm zm Am) H := hP
  have hD : va_D Ad (cw_w C L K z' r A' ++ mw_w om R Cm zm Am) := hD
  obtain ⟨k9, hk9, hw⟩ := hw
  subst hk9
  obtain ⟨hw, hqx, hxx, hjx⟩ := hw
  rw [hR14] at hqx
  obtain ⟨I', hlx⟩ := hw
  refine W.widen (k := 2341 + (n + 1)) (n := 683873 + 6 * (n + 1)) (by omega) (by omega) ?_
  refine W.eq (g2 := F0 m 346 ls [.int (hz_i k9)]) rfl ?_
  refine lv_istore (lv' := [(4, .int (hz_i k9)), (3, .int (hz_i i)), (2, .ref om), (1, .ref h), (0, .ref b)]) hx hb dL_law_346 hl (by decide) rfl (fun ls hl => ?_)
  refine lv_aload_n hx hb dL_law_348 rfl (lv_at hl 2 rfl) ?_
  refine lv_aload_n hx hb dL_law_349 rfl (lv_at hl 4 rfl) ?_
  refine lv_iload_n hx hb dL_law_350 rfl (lv_at hl 1 rfl) ?_
  refine lv_iconst (v := hz_i 1) hx hb dL_law_351 (by decide +kernel) ?_
  refine hz_iadd hx hb dL_law_352 ?_
  refine va_sld hx hb hX hbl hbA hS (hz_in (i := i + 1) ⟨by omega, by omega⟩ (by omega)) dL_law_353 ?_
  refine lv_topi (fun x_12 ex_12 => ?_)
  obtain rfl : x_12 = hz_i y_1 := ex_12.trans ey_1.symm
  refine lv_aload_n hx hb dL_law_354 rfl (lv_at hl 4 rfl) ?_
  refine lv_iload_n hx hb dL_law_355 rfl (lv_at hl 1 rfl) ?_
  refine lv_iconst (v := hz_i 2) hx hb dL_law_356 (by decide +kernel) ?_
  refine hz_iadd hx hb dL_law_357 ?_
  refine va_sld hx hb hX hbl hbA hS (hz_in (i := i + 2) ⟨by omega, by omega⟩ (by omega)) dL_law_358 ?_
  refine lv_topi (fun x_13 ex_13 => ?_)
  obtain rfl : x_13 = hz_i y_3 := ex_13.trans ey_3.symm
  refine lv_aload_n hx hb dL_law_359 rfl (lv_at hl 4 rfl) ?_
  refine lv_iload_n hx hb dL_law_360 rfl (lv_at hl 1 rfl) ?_
  refine lv_iconst (v := hz_i 3) hx hb dL_law_361 (by decide +kernel) ?_
  refine hz_iadd hx hb dL_law_362 ?_
  refine va_sld hx hb hX hbl hbA hS (hz_in (i := i + 3) ⟨by omega, by omega⟩ (by omega)) dL_law_363 ?_
  refine lv_topi (fun x_14 ex_14 => ?_)
  obtain rfl : x_14 = hz_i y_5 := ex_14.trans ey_5.symm
  refine lv_aload_n hx hb dL_law_364 rfl (lv_at hl 4 rfl) ?_
  refine lv_iload_n hx hb dL_law_365 rfl (lv_at hl 1 rfl) ?_
  refine lv_iconst (v := hz_i 4) hx hb dL_law_366 (by decide +kernel) ?_
  refine hz_iadd hx hb dL_law_367 ?_
  refine va_sld hx hb hX hbl hbA hS (hz_in (i := i + 4) ⟨by omega, by omega⟩ (by omega)) dL_law_368 ?_
  refine lv_topi (fun x_15 ex_15 => ?_)
  obtain rfl : x_15 = hz_i y_7 := ex_15.trans ey_7.symm
  refine lv_aload_n hx hb dL_law_369 rfl (lv_at hl 4 rfl) ?_
  refine lv_iload_n hx hb dL_law_370 rfl (lv_at hl 1 rfl) ?_
  refine lv_iconst (v := hz_i 5) hx hb dL_law_371 (by decide +kernel) ?_
  refine hz_iadd hx hb dL_law_372 ?_
  refine va_sld hx hb hX hbl hbA hS (hz_in (i := i + 5) ⟨by omega, by omega⟩ (by omega)) dL_law_373 ?_
  refine lv_topi (fun x_16 ex_16 => ?_)
  obtain rfl : x_16 = hz_i y_9 := ex_16.trans ey_9.symm
  have hPc := two_P2 hP
  have hDc := two_D2 hD
  have hFc := two_F hDc hS hA
  refine va_callv (va_runV (As := [.int (hz_i y_1), .int (hz_i y_3), .int (hz_i y_5), .int (hz_i y_7), .int (hz_i y_9)]) (rest := []) ⟨hx, hb, hml, hown, hts⟩ (k_tell l D _ om R Cm zm Am y_1 y_3 y_5 y_7 y_9 (fun z' B => (mi_I z' B ∧ (∀ q, q ≠ 3 → q ≠ 57 → z' q = zm q) ∧ md_Z Am B) ∧ la_tell (zm 34) σ9 y_1 y_3 y_5 y_7 y_9 (z' 3) ∧ lw_ty Am B y_1 y_3 y_5 y_7 y_9 (z' 3) ∧ B 51 = Am 51 ∧ B 53 = Am 53) (we_tell hI ry_1 ry_3 ry_5 ry_7 ry_9 Gm (fun t9 B I' d' l9 n9 y9 => ⟨⟨I', fun q hq _ => lp_U_other hq, d'⟩, by rw [lp_U_same]; exact l9, by rw [lp_U_same]; exact ⟨n9.1, y9⟩, n9.2⟩))) (cwV 5 hts gL_law_X12_tell rfl rfl rfl (by decide +kernel) ⟨Nat.le_of_ble_eq_true rfl, Nat.le_of_ble_eq_true rfl⟩) ⟨hm_blind, va_recv hKm hPc (ci := 12) (q0 := 0) rfl rfl, hm_pre hPc hKm hDc hE⟩ rfl rfl hl.1 rfl (lv_room (Nat.le_of_ble_eq_true rfl)) dL_law_374 ⟨(by show 2341 + (n + 1) + 0 ≤ 601024; omega), (by show 683873 + 6 * (n + 1) + 0 ≤ 7293034; omega)⟩) hS (fun q _ h => hFc q h) hFc (fun u t H1 locs ht hvm hw hB hz1 hk1 hS => ?_)
  obtain ⟨a_rv_17, zm', B'⟩ := u
  obtain ⟨hP1, hK1, hD1⟩ := hB
  rw [ht] at hP1
  obtain ⟨hP, hD⟩ := two_J2 hP hD hk1 hFc hP1 hD1
  generalize H1 = H at hP hS ⊢
  have hP : va_P D vwCl (cw_w C L K z' r A' ++ mw_w om R Cm zm' B') H := hP
  have hD : va_D Ad (cw_w C L K z' r A' ++ mw_w om R Cm zm' B') := hD
  obtain ⟨hw, hqm, hym, hbm⟩ := hw
  rw [la_tell_u hqm hqx] at hym
  obtain ⟨hI', hzm, hdm⟩ := hw
  have hR' := lw_V_tell I hR hlx hzm hdm hqx hxx hjx hym hbm
  refine W.eq (g2 := F0 m 377 ls []) rfl ?_
  refine lv_goto (tgt := 577) hx hb dL_law_377 (by decide) ?_
  exact nxt z' r A' zm' B' H locs ls (⟨I', HC.2⟩) hI' (hR') hP hD hS (lv_sub hl [1, 2, 3, 4] rfl)

set_option maxHeartbeats 8000000 in
set_option maxRecDepth 100000 in
theorem law_8 {p : Program} {e : Env} {s : State} {m : MethodId} {below : List Frame} {meth : Method} {c : Code} (l : Launch) (hlt : l.stackTraces = false) {b Ln : Nat} {xs : Nat → Int32} (hL : Ln ≤ 3072) (C0 : lw_At p s m meth c b Ln xs) {D : va_G} {C Cm : Nat → ClassId} {Ad : Nat → Prop} (hAd : Ad = fun q => s.heap.size ≤ q) (hE : hm_E s) (hXX : hm_X s) (hZU : vx_Zq Bundle.tN "UNASSIGNED_STACK" Bundle.steD Ad s s.heap) (hZN : vx_Zq Bundle.tN "SUPPRESSED_SENTINEL" Bundle.listD Ad s s.heap) (hKx : va_K D vwCl (cw_t C) s) (hKm : va_K D vwCl (mw_t Cm) s) {L : List Nat} {K : Nat → cw_K} {w : Nat → Nat × Nat} {ρ : Nat → Nat} {h om : Nat} {R : Nat → Nat} {n : Nat} {i : Int} (hi : i = 6 * (n : Int)) (hn : 6 * n + 6 ≤ Ln) {z : Nat → Nat → Int} {r : Nat → Nat → Nat} {A : Nat → Nat → Int} {zm : Nat → Int} {Am : Nat → Nat → Int} {H : Heap} {locs : List Loc} {ls : Array Slot} (nxt : ∀ (z : Nat → Nat → Int) (r : Nat → Nat → Nat) (A : Nat → Nat → Int) (zm : Nat → Int) (Am : Nat → Nat → Int) (H : Heap) (locs : List Loc) (ls : Array Slot), ci_C L K r w ρ z A h → mi_I zm Am → lw_V K r h z A zm Am → va_P D vwCl (cw_w C L K z r A ++ mw_w om R Cm zm Am) H → va_D Ad (cw_w C L K z r A ++ mw_w om R Cm zm Am) → va_S Ad s.heap H locs → lv_has ls 5 [(3, .int (hz_i i)), (2, .ref om), (1, .ref h), (0, .ref b)] → W p l e room_1 s m #[Value.ref b] below meth c H locs (2341 + (n + 1)) (683873 + 6 * (n + 1)) (lw_Z below #[Value.ref b] s) (F0 m 577 ls [])) (HC : ci_C L K r w ρ z A h) (hI : mi_I zm Am) (hR : lw_V K r h z A zm Am) (hP : va_P D vwCl (cw_w C L K z r A ++ mw_w om R Cm zm Am) H) (hD : va_D Ad (cw_w C L K z r A ++ mw_w om R Cm zm Am)) (hS : va_S Ad s.heap H locs) (hl : lv_has ls 5 [(3, .int (hz_i i)), (2, .ref om), (1, .ref h), (0, .ref b)]) : W p l e room_1 s m #[Value.ref b] below meth c H locs (2341 + n) (683873 + 6 * n) (lw_Z below #[Value.ref b] s) (F0 m 380 ls []) := by
  obtain ⟨hx, hb, hr, hml, hown, hts0, hX, hbl, hlocks, hgv⟩ := id C0
  have hown : s.vm.findClass RL = some m.cls := hown
  have hts : ∀ w ∈ wsL_law, w.before #[Value.ref b] s = true := fun w h => hts0 w (wsL_law_in w h)
  have hA : ∀ q : Nat, s.heap.size ≤ q → Ad q := fun q h => by rw [hAd]; exact h
  have hbA : ¬ Ad b := by rw [hAd]; exact Nat.not_le.mpr hbl
  have I := HC.1
  have hO : cw_O L K 11 h := I.2.1.1.1
  obtain ⟨⟨⟨hRt, hR15, hR14, σ9, hσ⟩, W9⟩, J9, -⟩ := id hR
  have Gx : z h 14 = 1 → sg_R K r (r h 13) σ9 z A := fun q => (hσ q).1
  have Gm : zm 34 = 1 → mg_R (zm 32).toNat Am σ9 := fun q => (hσ (hR14.trans q)).2
  have ec : zm 34 = 1 → ∀ t, t < 2 → (ce_G K r h z A Am t ↔ me_G zm Am t) := fun q t ht => ce_me ht (Gx (hR14.trans q)) (Gm q)
  refine lv_aload_n hx hb dL_law_380 rfl (lv_at hl 2 rfl) ?_
  refine lv_aload_n hx hb dL_law_381 rfl (lv_at hl 3 rfl) ?_
  refine lv_iload_n hx hb dL_law_382 rfl (lv_at hl 0 rfl) ?_
  refine lv_iconst (v := hz_i 1) hx hb dL_law_383 (by decide +kernel) ?_
  refine hz_iadd hx hb dL_law_384 ?_
  refine va_sld hx hb hX hbl hbA hS (hz_in (i := i + 1) ⟨by omega, by omega⟩ (by omega)) dL_law_385 ?_
  refine lv_topi (fun x_2 ex_2 => ?_)
  obtain ⟨y_1, ry_1, qy_1⟩ := hz_i_of x_2
  subst qy_1
  have ey_1 := ex_2
  obtain ⟨q8, hq8⟩ := cw_at (C := C) (z := z) (r := r) (A := A) hO.1 hO.2
  have hPc := two_P1 hP
  have hDc := two_D1 hD
  have hFc := two_F hDc hS hA
  refine va_calli (va_runV (As := [.int (hz_i y_1)]) (rest := []) ⟨hx, hb, hml, hown, hts⟩ (k_c11_good l D _ C L K z r A h y_1 (fun _ => True) (wq_c11_good I ry_1 (fun _ => trivial))) (cwV 1 hts gL_law_X11_good rfl rfl rfl (by decide +kernel) ⟨Nat.le_of_ble_eq_true rfl, Nat.le_of_ble_eq_true rfl⟩) ⟨hm_blind, va_recv hKx hPc (ci := 11) (q0 := q8) rfl hq8, hm_pre hPc hKx hDc hE⟩ rfl rfl hl.1 rfl (lv_room (Nat.le_of_ble_eq_true rfl)) dL_law_386 ⟨(by show 2341 + n + 0 ≤ 601024; omega), (by show 683873 + 6 * n + 0 ≤ 7293034; omega)⟩) hS (fun q _ h => hFc q h) hFc (fun rv_3 u t H1 locs ht hvm hw hB hz1 hk1 hS => ?_)
  obtain ⟨a_rv_3, _, _, _⟩ := u
  obtain ⟨hP1, hK1, hD1⟩ := hB
  rw [ht] at hP1
  obtain ⟨hP, hD⟩ := two_J1 hP hD hk1 hFc hP1 hD1
  generalize H1 = H at hP hS ⊢
  have hP : va_P D vwCl (cw_w C L K z r A ++ mw_w om R Cm zm Am) H := hP
  have hD : va_D Ad (cw_w C L K z r A ++ mw_w om R Cm zm Am) := hD
  obtain ⟨hrv, hw⟩ := hw
  subst hrv
  refine W.eq (g2 := F0 m 389 ls [.int (hz_i a_rv_3)]) rfl ?_
  refine lv_pop hx hb dL_law_389 rfl ?_
  refine lv_aload_n hx hb dL_law_390 rfl (lv_at hl 1 rfl) ?_
  refine lv_aload_n hx hb dL_law_391 rfl (lv_at hl 3 rfl) ?_
  refine lv_iload_n hx hb dL_law_392 rfl (lv_at hl 0 rfl) ?_
  refine lv_iconst (v := hz_i 1) hx hb dL_law_393 (by decide +kernel) ?_
  refine hz_iadd hx hb dL_law_394 ?_
  refine va_sld hx hb hX hbl hbA hS (hz_in (i := i + 1) ⟨by omega, by omega⟩ (by omega)) dL_law_395 ?_
  refine lv_topi (fun x_4 ex_4 => ?_)
  obtain rfl : x_4 = hz_i y_1 := ex_4.trans ey_1.symm
  have hPc := two_P2 hP
  have hDc := two_D2 hD
  have hFc := two_F hDc hS hA
  refine va_calli (va_runV (As := [.int (hz_i y_1)]) (rest := []) ⟨hx, hb, hml, hown, hts⟩ (k_good l D _ om R Cm zm Am y_1 (fun _ z' => mi_I z' Am ∧ (∀ q, q ≠ 3 → q ≠ 57 → z' q = zm q)) (wq_good hI ry_1 (fun r9 t9 I' => ⟨I', fun q hq _ => lp_U_other hq⟩))) (cwV 1 hts gL_law_X12_good rfl rfl rfl (by decide +kernel) ⟨Nat.le_of_ble_eq_true rfl, Nat.le_of_ble_eq_true rfl⟩) ⟨hm_blind, va_recv hKm hPc (ci := 12) (q0 := 0) rfl rfl, hm_pre hPc hKm hDc hE⟩ rfl rfl hl.1 rfl (lv_room (Nat.le_of_ble_eq_true rfl)) dL_law_396 ⟨(by show 2341 + n + 0 ≤ 601024; omega), (by show 683873 + 6 * n + 0 ≤ 7293034; omega)⟩) hS (fun q _ h => hFc q h) hFc (fun rv_5 u t H1 locs ht hvm hw hB hz1 hk1 hS => ?_)
  obtain ⟨a_rv_5, zm', _⟩ := u
  obtain ⟨hP1, hK1, hD1⟩ := hB
  rw [ht] at hP1
  obtain ⟨hP, hD⟩ := two_J2 hP hD hk1 hFc hP1 hD1
  generalize H1 = H at hP hS ⊢
  have hP : va_P D vwCl (cw_w C L K z r A ++ mw_w om R Cm zm' Am) H := hP
  have hD : va_D Ad (cw_w C L K z r A ++ mw_w om R Cm zm' Am) := hD
  obtain ⟨hrv, hw⟩ := hw
  subst hrv
  obtain ⟨hI', hzm⟩ := hw
  have hR' := lw_V_keep I hR (ci_E_refl _ _ _ _ _ _) hzm (me_refl _)
  refine W.eq (g2 := F0 m 399 ls [.int (hz_i a_rv_5)]) rfl ?_
  refine lv_pop hx hb dL_law_399 rfl ?_
  refine lv_goto (tgt := 577) hx hb dL_law_400 (by decide) ?_
  refine W.widen (k := 2341 + (n + 1)) (n := 683873 + 6 * (n + 1)) (by omega) (by omega) ?_
  exact nxt z r A zm' Am H locs ls (HC) hI' (hR') hP hD hS (lv_sub hl [0, 1, 2, 3] rfl)

set_option maxHeartbeats 8000000 in
set_option maxRecDepth 100000 in
theorem law_9 {p : Program} {e : Env} {s : State} {m : MethodId} {below : List Frame} {meth : Method} {c : Code} (l : Launch) (hlt : l.stackTraces = false) {b Ln : Nat} {xs : Nat → Int32} (hL : Ln ≤ 3072) (C0 : lw_At p s m meth c b Ln xs) {D : va_G} {C Cm : Nat → ClassId} {Ad : Nat → Prop} (hAd : Ad = fun q => s.heap.size ≤ q) (hE : hm_E s) (hXX : hm_X s) (hZU : vx_Zq Bundle.tN "UNASSIGNED_STACK" Bundle.steD Ad s s.heap) (hZN : vx_Zq Bundle.tN "SUPPRESSED_SENTINEL" Bundle.listD Ad s s.heap) (hKx : va_K D vwCl (cw_t C) s) (hKm : va_K D vwCl (mw_t Cm) s) {L : List Nat} {K : Nat → cw_K} {w : Nat → Nat × Nat} {ρ : Nat → Nat} {h om : Nat} {R : Nat → Nat} {n : Nat} {i : Int} (hi : i = 6 * (n : Int)) (hn : 6 * n + 6 ≤ Ln) {z : Nat → Nat → Int} {r : Nat → Nat → Nat} {A : Nat → Nat → Int} {zm : Nat → Int} {Am : Nat → Nat → Int} {H : Heap} {locs : List Loc} {ls : Array Slot} (nxt : ∀ (z : Nat → Nat → Int) (r : Nat → Nat → Nat) (A : Nat → Nat → Int) (zm : Nat → Int) (Am : Nat → Nat → Int) (H : Heap) (locs : List Loc) (ls : Array Slot), ci_C L K r w ρ z A h → mi_I zm Am → lw_V K r h z A zm Am → va_P D vwCl (cw_w C L K z r A ++ mw_w om R Cm zm Am) H → va_D Ad (cw_w C L K z r A ++ mw_w om R Cm zm Am) → va_S Ad s.heap H locs → lv_has ls 5 [(3, .int (hz_i i)), (2, .ref om), (1, .ref h), (0, .ref b)] → W p l e room_1 s m #[Value.ref b] below meth c H locs (2341 + (n + 1)) (683873 + 6 * (n + 1)) (lw_Z below #[Value.ref b] s) (F0 m 577 ls [])) (HC : ci_C L K r w ρ z A h) (hI : mi_I zm Am) (hR : lw_V K r h z A zm Am) (hP : va_P D vwCl (cw_w C L K z r A ++ mw_w om R Cm zm Am) H) (hD : va_D Ad (cw_w C L K z r A ++ mw_w om R Cm zm Am)) (hS : va_S Ad s.heap H locs) (hl : lv_has ls 5 [(3, .int (hz_i i)), (2, .ref om), (1, .ref h), (0, .ref b)]) : W p l e room_1 s m #[Value.ref b] below meth c H locs (2341 + n) (683873 + 6 * n) (lw_Z below #[Value.ref b] s) (F0 m 403 ls []) := by
  obtain ⟨hx, hb, hr, hml, hown, hts0, hX, hbl, hlocks, hgv⟩ := id C0
  have hown : s.vm.findClass RL = some m.cls := hown
  have hts : ∀ w ∈ wsL_law, w.before #[Value.ref b] s = true := fun w h => hts0 w (wsL_law_in w h)
  have hA : ∀ q : Nat, s.heap.size ≤ q → Ad q := fun q h => by rw [hAd]; exact h
  have hbA : ¬ Ad b := by rw [hAd]; exact Nat.not_le.mpr hbl
  have I := HC.1
  have hO : cw_O L K 11 h := I.2.1.1.1
  obtain ⟨⟨⟨hRt, hR15, hR14, σ9, hσ⟩, W9⟩, J9, -⟩ := id hR
  have Gx : z h 14 = 1 → sg_R K r (r h 13) σ9 z A := fun q => (hσ q).1
  have Gm : zm 34 = 1 → mg_R (zm 32).toNat Am σ9 := fun q => (hσ (hR14.trans q)).2
  have ec : zm 34 = 1 → ∀ t, t < 2 → (ce_G K r h z A Am t ↔ me_G zm Am t) := fun q t ht => ce_me ht (Gx (hR14.trans q)) (Gm q)
  refine lv_aload_n hx hb dL_law_403 rfl (lv_at hl 2 rfl) ?_
  have hPc := two_P1 hP
  have hDc := two_D1 hD
  have hFc := two_F hDc hS hA
  refine va_calli (vx_runSW (As := [.ref h]) (rest := []) ⟨hx, hb, hml, hown, hts⟩ (kw_solve l hlt D _ C L K z r A h (fun _ z' A' => ci_I L K r w ρ z' A' h ∧ ci_E K r ρ h z A z' A') hO (we_c11_solve I (fun z' A' I' _ d' => ⟨I', d'⟩) ⟨rfl, I, ci_E_refl _ _ _ _ _ _⟩)) (vx_cwSW 1 hts gL_law_L_solve rfl rfl rfl (by decide +kernel) ⟨Nat.le_of_ble_eq_true rfl, Nat.le_of_ble_eq_true rfl⟩) ⟨hm_blindX, hm_preX hPc hKx hDc hE hXX (hZU.kept hS.2.1) (hZN.kept hS.2.1) hFc⟩ rfl rfl hl.1 rfl (lv_room (Nat.le_of_ble_eq_true rfl)) dL_law_404 ⟨(by show 2341 + n + 1 ≤ 601024; omega), (by show 683873 + 6 * n + 6 ≤ 7293034; omega)⟩) hS (fun q _ h => hFc q h) hFc (fun rv_1 u t H1 locs ht hvm hw hB hz1 hk1 hS => ?_)
  obtain ⟨_, z', _, A'⟩ := u
  obtain ⟨hP1, hK1, hD1⟩ := hB
  rw [ht] at hP1
  obtain ⟨hP, hD⟩ := two_J1 hP hD hk1 hFc hP1 hD1
  generalize H1 = H at hP hS ⊢
  have hP : va_P D vwCl (cw_w C L K z' r A' ++ mw_w om R Cm zm Am) H := hP
  have hD : va_D Ad (cw_w C L K z' r A' ++ mw_w om R Cm zm Am) := hD
  obtain ⟨k9, hk9, hw⟩ := hw
  subst hk9
  obtain ⟨I', hlx⟩ := hw
  refine W.widen (k := 2341 + (n + 1)) (n := 683873 + 6 * (n + 1)) (by omega) (by omega) ?_
  refine W.eq (g2 := F0 m 407 ls [.int (hz_i k9)]) rfl ?_
  refine lv_istore (lv' := [(4, .int (hz_i k9)), (3, .int (hz_i i)), (2, .ref om), (1, .ref h), (0, .ref b)]) hx hb dL_law_407 hl (by decide) rfl (fun ls hl => ?_)
  refine lv_aload_n hx hb dL_law_409 rfl (lv_at hl 2 rfl) ?_
  have hPc := two_P2 hP
  have hDc := two_D2 hD
  have hFc := two_F hDc hS hA
  refine va_callv (va_runV (As := []) (rest := []) ⟨hx, hb, hml, hown, hts⟩ (k_solve l D _ om R Cm zm Am (fun z' B => mi_I z' B ∧ (∀ q, q ≠ 3 → q ≠ 57 → z' q = zm q) ∧ me_Z Am B) (we_solve hI  (fun t9 B I' d' _ => ⟨I', fun q hq _ => lp_U_other hq, d'⟩))) (cwV 0 hts gL_law_X12_solve rfl rfl rfl (by decide +kernel) ⟨Nat.le_of_ble_eq_true rfl, Nat.le_of_ble_eq_true rfl⟩) ⟨hm_blind, va_recv hKm hPc (ci := 12) (q0 := 0) rfl rfl, hm_pre hPc hKm hDc hE⟩ rfl rfl hl.1 rfl (lv_room (Nat.le_of_ble_eq_true rfl)) dL_law_410 ⟨(by show 2341 + (n + 1) + 0 ≤ 601024; omega), (by show 683873 + 6 * (n + 1) + 0 ≤ 7293034; omega)⟩) hS (fun q _ h => hFc q h) hFc (fun u t H1 locs ht hvm hw hB hz1 hk1 hS => ?_)
  obtain ⟨a_rv_2, zm', B'⟩ := u
  obtain ⟨hP1, hK1, hD1⟩ := hB
  rw [ht] at hP1
  obtain ⟨hP, hD⟩ := two_J2 hP hD hk1 hFc hP1 hD1
  generalize H1 = H at hP hS ⊢
  have hP : va_P D vwCl (cw_w C L K z' r A' ++ mw_w om R Cm zm' B') H := hP
  have hD : va_D Ad (cw_w C L K z' r A' ++ mw_w om R Cm zm' B') := hD
  obtain ⟨hI', hzm, hdm⟩ := hw
  have hR' := lw_V_keep I hR hlx hzm hdm
  refine W.eq (g2 := F0 m 413 ls []) rfl ?_
  refine lv_goto (tgt := 577) hx hb dL_law_413 (by decide) ?_
  exact nxt z' r A' zm' B' H locs ls (⟨I', HC.2⟩) hI' (hR') hP hD hS (lv_sub hl [1, 2, 3, 4] rfl)

set_option maxHeartbeats 8000000 in
set_option maxRecDepth 100000 in
theorem law_10 {p : Program} {e : Env} {s : State} {m : MethodId} {below : List Frame} {meth : Method} {c : Code} (l : Launch) (hlt : l.stackTraces = false) {b Ln : Nat} {xs : Nat → Int32} (hL : Ln ≤ 3072) (C0 : lw_At p s m meth c b Ln xs) {D : va_G} {C Cm : Nat → ClassId} {Ad : Nat → Prop} (hAd : Ad = fun q => s.heap.size ≤ q) (hE : hm_E s) (hXX : hm_X s) (hZU : vx_Zq Bundle.tN "UNASSIGNED_STACK" Bundle.steD Ad s s.heap) (hZN : vx_Zq Bundle.tN "SUPPRESSED_SENTINEL" Bundle.listD Ad s s.heap) (hKx : va_K D vwCl (cw_t C) s) (hKm : va_K D vwCl (mw_t Cm) s) {L : List Nat} {K : Nat → cw_K} {w : Nat → Nat × Nat} {ρ : Nat → Nat} {h om : Nat} {R : Nat → Nat} {n : Nat} {i : Int} (hi : i = 6 * (n : Int)) (hn : 6 * n + 6 ≤ Ln) {z : Nat → Nat → Int} {r : Nat → Nat → Nat} {A : Nat → Nat → Int} {zm : Nat → Int} {Am : Nat → Nat → Int} {H : Heap} {locs : List Loc} {ls : Array Slot} (nxt : ∀ (z : Nat → Nat → Int) (r : Nat → Nat → Nat) (A : Nat → Nat → Int) (zm : Nat → Int) (Am : Nat → Nat → Int) (H : Heap) (locs : List Loc) (ls : Array Slot), ci_C L K r w ρ z A h → mi_I zm Am → lw_V K r h z A zm Am → va_P D vwCl (cw_w C L K z r A ++ mw_w om R Cm zm Am) H → va_D Ad (cw_w C L K z r A ++ mw_w om R Cm zm Am) → va_S Ad s.heap H locs → lv_has ls 5 [(3, .int (hz_i i)), (2, .ref om), (1, .ref h), (0, .ref b)] → W p l e room_1 s m #[Value.ref b] below meth c H locs (2341 + (n + 1)) (683873 + 6 * (n + 1)) (lw_Z below #[Value.ref b] s) (F0 m 577 ls [])) (HC : ci_C L K r w ρ z A h) (hI : mi_I zm Am) (hR : lw_V K r h z A zm Am) (hP : va_P D vwCl (cw_w C L K z r A ++ mw_w om R Cm zm Am) H) (hD : va_D Ad (cw_w C L K z r A ++ mw_w om R Cm zm Am)) (hS : va_S Ad s.heap H locs) (hl : lv_has ls 5 [(3, .int (hz_i i)), (2, .ref om), (1, .ref h), (0, .ref b)]) : W p l e room_1 s m #[Value.ref b] below meth c H locs (2341 + n) (683873 + 6 * n) (lw_Z below #[Value.ref b] s) (F0 m 416 ls []) := by
  obtain ⟨hx, hb, hr, hml, hown, hts0, hX, hbl, hlocks, hgv⟩ := id C0
  have hown : s.vm.findClass RL = some m.cls := hown
  have hts : ∀ w ∈ wsL_law, w.before #[Value.ref b] s = true := fun w h => hts0 w (wsL_law_in w h)
  have hA : ∀ q : Nat, s.heap.size ≤ q → Ad q := fun q h => by rw [hAd]; exact h
  have hbA : ¬ Ad b := by rw [hAd]; exact Nat.not_le.mpr hbl
  have I := HC.1
  have hO : cw_O L K 11 h := I.2.1.1.1
  obtain ⟨⟨⟨hRt, hR15, hR14, σ9, hσ⟩, W9⟩, J9, -⟩ := id hR
  have Gx : z h 14 = 1 → sg_R K r (r h 13) σ9 z A := fun q => (hσ q).1
  have Gm : zm 34 = 1 → mg_R (zm 32).toNat Am σ9 := fun q => (hσ (hR14.trans q)).2
  have ec : zm 34 = 1 → ∀ t, t < 2 → (ce_G K r h z A Am t ↔ me_G zm Am t) := fun q t ht => ce_me ht (Gx (hR14.trans q)) (Gm q)
  refine lv_aload_n hx hb dL_law_416 rfl (lv_at hl 2 rfl) ?_
  have hPc := two_P1 hP
  have hDc := two_D1 hD
  have hFc := two_F hDc hS hA
  refine va_calli (vx_runSW (As := [.ref h]) (rest := []) ⟨hx, hb, hml, hown, hts⟩ (kw_expect l hlt D _ C L K z r A h (fun _ z' A' => ci_I L K r w ρ z' A' h ∧ ci_E K r ρ h z A z' A') hO (we_c11_expect I (fun z' A' I' _ d' => ⟨I', d'⟩) ⟨rfl, I, ci_E_refl _ _ _ _ _ _⟩)) (vx_cwSW 1 hts gL_law_L_expect rfl rfl rfl (by decide +kernel) ⟨Nat.le_of_ble_eq_true rfl, Nat.le_of_ble_eq_true rfl⟩) ⟨hm_blindX, hm_preX hPc hKx hDc hE hXX (hZU.kept hS.2.1) (hZN.kept hS.2.1) hFc⟩ rfl rfl hl.1 rfl (lv_room (Nat.le_of_ble_eq_true rfl)) dL_law_417 ⟨(by show 2341 + n + 1 ≤ 601024; omega), (by show 683873 + 6 * n + 6 ≤ 7293034; omega)⟩) hS (fun q _ h => hFc q h) hFc (fun rv_1 u t H1 locs ht hvm hw hB hz1 hk1 hS => ?_)
  obtain ⟨_, z', _, A'⟩ := u
  obtain ⟨hP1, hK1, hD1⟩ := hB
  rw [ht] at hP1
  obtain ⟨hP, hD⟩ := two_J1 hP hD hk1 hFc hP1 hD1
  generalize H1 = H at hP hS ⊢
  have hP : va_P D vwCl (cw_w C L K z' r A' ++ mw_w om R Cm zm Am) H := hP
  have hD : va_D Ad (cw_w C L K z' r A' ++ mw_w om R Cm zm Am) := hD
  obtain ⟨k9, hk9, hw⟩ := hw
  subst hk9
  obtain ⟨I', hlx⟩ := hw
  refine W.widen (k := 2341 + (n + 1)) (n := 683873 + 6 * (n + 1)) (by omega) (by omega) ?_
  refine W.eq (g2 := F0 m 420 ls [.int (hz_i k9)]) rfl ?_
  refine lv_istore (lv' := [(4, .int (hz_i k9)), (3, .int (hz_i i)), (2, .ref om), (1, .ref h), (0, .ref b)]) hx hb dL_law_420 hl (by decide) rfl (fun ls hl => ?_)
  refine lv_aload_n hx hb dL_law_422 rfl (lv_at hl 2 rfl) ?_
  have hPc := two_P2 hP
  have hDc := two_D2 hD
  have hFc := two_F hDc hS hA
  refine va_callv (va_runV (As := []) (rest := []) ⟨hx, hb, hml, hown, hts⟩ (k_expect l D _ om R Cm zm Am (fun z' B => mi_I z' B ∧ (∀ q, q ≠ 3 → q ≠ 57 → z' q = zm q) ∧ me_Z Am B) (we_expect hI  (fun t9 B I' d' _ => ⟨I', fun q hq _ => lp_U_other hq, d'⟩))) (cwV 0 hts gL_law_X12_expect rfl rfl rfl (by decide +kernel) ⟨Nat.le_of_ble_eq_true rfl, Nat.le_of_ble_eq_true rfl⟩) ⟨hm_blind, va_recv hKm hPc (ci := 12) (q0 := 0) rfl rfl, hm_pre hPc hKm hDc hE⟩ rfl rfl hl.1 rfl (lv_room (Nat.le_of_ble_eq_true rfl)) dL_law_423 ⟨(by show 2341 + (n + 1) + 0 ≤ 601024; omega), (by show 683873 + 6 * (n + 1) + 0 ≤ 7293034; omega)⟩) hS (fun q _ h => hFc q h) hFc (fun u t H1 locs ht hvm hw hB hz1 hk1 hS => ?_)
  obtain ⟨a_rv_2, zm', B'⟩ := u
  obtain ⟨hP1, hK1, hD1⟩ := hB
  rw [ht] at hP1
  obtain ⟨hP, hD⟩ := two_J2 hP hD hk1 hFc hP1 hD1
  generalize H1 = H at hP hS ⊢
  have hP : va_P D vwCl (cw_w C L K z' r A' ++ mw_w om R Cm zm' B') H := hP
  have hD : va_D Ad (cw_w C L K z' r A' ++ mw_w om R Cm zm' B') := hD
  obtain ⟨hI', hzm, hdm⟩ := hw
  have hR' := lw_V_keep I hR hlx hzm hdm
  refine W.eq (g2 := F0 m 426 ls []) rfl ?_
  refine lv_goto (tgt := 577) hx hb dL_law_426 (by decide) ?_
  exact nxt z' r A' zm' B' H locs ls (⟨I', HC.2⟩) hI' (hR') hP hD hS (lv_sub hl [1, 2, 3, 4] rfl)

set_option maxHeartbeats 8000000 in
set_option maxRecDepth 100000 in
theorem law_11 {p : Program} {e : Env} {s : State} {m : MethodId} {below : List Frame} {meth : Method} {c : Code} (l : Launch) (hlt : l.stackTraces = false) {b Ln : Nat} {xs : Nat → Int32} (hL : Ln ≤ 3072) (C0 : lw_At p s m meth c b Ln xs) {D : va_G} {C Cm : Nat → ClassId} {Ad : Nat → Prop} (hAd : Ad = fun q => s.heap.size ≤ q) (hE : hm_E s) (hXX : hm_X s) (hZU : vx_Zq Bundle.tN "UNASSIGNED_STACK" Bundle.steD Ad s s.heap) (hZN : vx_Zq Bundle.tN "SUPPRESSED_SENTINEL" Bundle.listD Ad s s.heap) (hKx : va_K D vwCl (cw_t C) s) (hKm : va_K D vwCl (mw_t Cm) s) {L : List Nat} {K : Nat → cw_K} {w : Nat → Nat × Nat} {ρ : Nat → Nat} {h om : Nat} {R : Nat → Nat} {n : Nat} {i : Int} (hi : i = 6 * (n : Int)) (hn : 6 * n + 6 ≤ Ln) {z : Nat → Nat → Int} {r : Nat → Nat → Nat} {A : Nat → Nat → Int} {zm : Nat → Int} {Am : Nat → Nat → Int} {H : Heap} {locs : List Loc} {ls : Array Slot} (nxt : ∀ (z : Nat → Nat → Int) (r : Nat → Nat → Nat) (A : Nat → Nat → Int) (zm : Nat → Int) (Am : Nat → Nat → Int) (H : Heap) (locs : List Loc) (ls : Array Slot), ci_C L K r w ρ z A h → mi_I zm Am → lw_V K r h z A zm Am → va_P D vwCl (cw_w C L K z r A ++ mw_w om R Cm zm Am) H → va_D Ad (cw_w C L K z r A ++ mw_w om R Cm zm Am) → va_S Ad s.heap H locs → lv_has ls 5 [(3, .int (hz_i i)), (2, .ref om), (1, .ref h), (0, .ref b)] → W p l e room_1 s m #[Value.ref b] below meth c H locs (2341 + (n + 1)) (683873 + 6 * (n + 1)) (lw_Z below #[Value.ref b] s) (F0 m 577 ls [])) (HC : ci_C L K r w ρ z A h) (hI : mi_I zm Am) (hR : lw_V K r h z A zm Am) (hP : va_P D vwCl (cw_w C L K z r A ++ mw_w om R Cm zm Am) H) (hD : va_D Ad (cw_w C L K z r A ++ mw_w om R Cm zm Am)) (hS : va_S Ad s.heap H locs) (hl : lv_has ls 5 [(3, .int (hz_i i)), (2, .ref om), (1, .ref h), (0, .ref b)]) : W p l e room_1 s m #[Value.ref b] below meth c H locs (2341 + n) (683873 + 6 * n) (lw_Z below #[Value.ref b] s) (F0 m 429 ls []) := by
  obtain ⟨hx, hb, hr, hml, hown, hts0, hX, hbl, hlocks, hgv⟩ := id C0
  have hown : s.vm.findClass RL = some m.cls := hown
  have hts : ∀ w ∈ wsL_law, w.before #[Value.ref b] s = true := fun w h => hts0 w (wsL_law_in w h)
  have hA : ∀ q : Nat, s.heap.size ≤ q → Ad q := fun q h => by rw [hAd]; exact h
  have hbA : ¬ Ad b := by rw [hAd]; exact Nat.not_le.mpr hbl
  have I := HC.1
  have hO : cw_O L K 11 h := I.2.1.1.1
  obtain ⟨⟨⟨hRt, hR15, hR14, σ9, hσ⟩, W9⟩, J9, -⟩ := id hR
  have Gx : z h 14 = 1 → sg_R K r (r h 13) σ9 z A := fun q => (hσ q).1
  have Gm : zm 34 = 1 → mg_R (zm 32).toNat Am σ9 := fun q => (hσ (hR14.trans q)).2
  have ec : zm 34 = 1 → ∀ t, t < 2 → (ce_G K r h z A Am t ↔ me_G zm Am t) := fun q t ht => ce_me ht (Gx (hR14.trans q)) (Gm q)
  refine lv_aload_n hx hb dL_law_429 rfl (lv_at hl 2 rfl) ?_
  refine lv_aload_n hx hb dL_law_430 rfl (lv_at hl 3 rfl) ?_
  refine lv_iload_n hx hb dL_law_431 rfl (lv_at hl 0 rfl) ?_
  refine lv_iconst (v := hz_i 1) hx hb dL_law_432 (by decide +kernel) ?_
  refine hz_iadd hx hb dL_law_433 ?_
  refine va_sld hx hb hX hbl hbA hS (hz_in (i := i + 1) ⟨by omega, by omega⟩ (by omega)) dL_law_434 ?_
  refine lv_topi (fun x_2 ex_2 => ?_)
  obtain ⟨y_1, ry_1, qy_1⟩ := hz_i_of x_2
  subst qy_1
  have ey_1 := ex_2
  have hPc := two_P1 hP
  have hDc := two_D1 hD
  have hFc := two_F hDc hS hA
  refine va_calli (vx_runSW (As := [.ref h, .int (hz_i y_1)]) (rest := []) ⟨hx, hb, hml, hown, hts⟩ (kw_judge l hlt D _ C L K z r A h y_1 (fun _ z' A' => ci_I L K r w ρ z' A' h ∧ lw_jx K r ρ h σ9 Am z A y_1 z' A') hO (wz_c11_judge I ry_1 W9 Gx J9 (fun g9 z' A' I' _ d' f9 o9 b9 => ⟨I', Or.inr ⟨g9, d', f9, o9, b9⟩⟩) (fun p9 n9 => Or.inr ⟨rfl, I, Or.inl ⟨fun q => n9 q.2, rfl, rfl⟩⟩) (fun n9 => Or.inl ⟨rfl, I, Or.inl ⟨fun q => n9 q.1, rfl, rfl⟩⟩))) (vx_cwSW 2 hts gL_law_L_judge rfl rfl rfl (by decide +kernel) ⟨Nat.le_of_ble_eq_true rfl, Nat.le_of_ble_eq_true rfl⟩) ⟨hm_blindX, hm_preX hPc hKx hDc hE hXX (hZU.kept hS.2.1) (hZN.kept hS.2.1) hFc⟩ rfl rfl hl.1 rfl (lv_room (Nat.le_of_ble_eq_true rfl)) dL_law_435 ⟨(by show 2341 + n + 1 ≤ 601024; omega), (by show 683873 + 6 * n + 6 ≤ 7293034; omega)⟩) hS (fun q _ h => hFc q h) hFc (fun rv_3 u t H1 locs ht hvm hw hB hz1 hk1 hS => ?_)
  obtain ⟨_, z', _, A'⟩ := u
  obtain ⟨hP1, hK1, hD1⟩ := hB
  rw [ht] at hP1
  obtain ⟨hP, hD⟩ := two_J1 hP hD hk1 hFc hP1 hD1
  generalize H1 = H at hP hS ⊢
  have hP : va_P D vwCl (cw_w C L K z' r A' ++ mw_w om R Cm zm Am) H := hP
  have hD : va_D Ad (cw_w C L K z' r A' ++ mw_w om R Cm zm Am) := hD
  obtain ⟨k9, hk9, hw⟩ := hw
  subst hk9
  obtain ⟨I', hlx⟩ := hw
  refine W.widen (k := 2341 + (n + 1)) (n := 683873 + 6 * (n + 1)) (by omega) (by omega) ?_
  refine W.eq (g2 := F0 m 438 ls [.int (hz_i k9)]) rfl ?_
  refine lv_istore (lv' := [(4, .int (hz_i k9)), (3, .int (hz_i i)), (2, .ref om), (1, .ref h), (0, .ref b)]) hx hb dL_law_438 hl (by decide) rfl (fun ls hl => ?_)
  refine lv_aload_n hx hb dL_law_440 rfl (lv_at hl 2 rfl) ?_
  refine lv_aload_n hx hb dL_law_441 rfl (lv_at hl 4 rfl) ?_
  refine lv_iload_n hx hb dL_law_442 rfl (lv_at hl 1 rfl) ?_
  refine lv_iconst (v := hz_i 1) hx hb dL_law_443 (by decide +kernel) ?_
  refine hz_iadd hx hb dL_law_444 ?_
  refine va_sld hx hb hX hbl hbA hS (hz_in (i := i + 1) ⟨by omega, by omega⟩ (by omega)) dL_law_445 ?_
  refine lv_topi (fun x_4 ex_4 => ?_)
  obtain rfl : x_4 = hz_i y_1 := ex_4.trans ey_1.symm
  have hPc := two_P2 hP
  have hDc := two_D2 hD
  have hFc := two_F hDc hS hA
  refine va_callv (va_runV (As := [.int (hz_i y_1)]) (rest := []) ⟨hx, hb, hml, hown, hts⟩ (k_judge l D _ om R Cm zm Am y_1 (fun z' B => mi_I z' B ∧ (∀ q, q ≠ 3 → q ≠ 57 → z' q = zm q) ∧ lw_jy zm Am (rv_V σ9 (2 - y_1).toNat (A (r (cw_g K (r h 4) (y_1 - 1).toNat) 0)) (A (r (cw_g K (r h 4) (y_1 - 1).toNat) 1))) y_1 B) (wz_judge (V := (rv_V σ9 (2 - y_1).toNat (A (r (cw_g K (r h 4) (y_1 - 1).toNat) 0)) (A (r (cw_g K (r h 4) (y_1 - 1).toNat) 1)))) (C0 := Am 25 (zm 32).toNat * wy_p (wy_f (A (r (cw_g K (r h 4) (y_1 - 1).toNat) 0)) (A (r (cw_g K (r h 4) (y_1 - 1).toNat) 1)) (σ9 (12 + (1 - (2 - y_1).toNat))) (fun _ => -1)) (σ9 1 (1 - (2 - y_1).toNat)).toNat) hI ry_1 (lw_HA hI W9 Gx Gm hR14) (fun t9 B I' d' l9 => ⟨I', fun q hq _ => lp_U_other hq, lw_jy_of d' l9⟩))) (cwV 1 hts gL_law_X12_judge rfl rfl rfl (by decide +kernel) ⟨Nat.le_of_ble_eq_true rfl, Nat.le_of_ble_eq_true rfl⟩) ⟨hm_blind, va_recv hKm hPc (ci := 12) (q0 := 0) rfl rfl, hm_pre hPc hKm hDc hE⟩ rfl rfl hl.1 rfl (lv_room (Nat.le_of_ble_eq_true rfl)) dL_law_446 ⟨(by show 2341 + (n + 1) + 0 ≤ 601024; omega), (by show 683873 + 6 * (n + 1) + 0 ≤ 7293034; omega)⟩) hS (fun q _ h => hFc q h) hFc (fun u t H1 locs ht hvm hw hB hz1 hk1 hS => ?_)
  obtain ⟨a_rv_5, zm', B'⟩ := u
  obtain ⟨hP1, hK1, hD1⟩ := hB
  rw [ht] at hP1
  obtain ⟨hP, hD⟩ := two_J2 hP hD hk1 hFc hP1 hD1
  generalize H1 = H at hP hS ⊢
  have hP : va_P D vwCl (cw_w C L K z' r A' ++ mw_w om R Cm zm' B') H := hP
  have hD : va_D Ad (cw_w C L K z' r A' ++ mw_w om R Cm zm' B') := hD
  obtain ⟨hI', hzm, hdm⟩ := hw
  have hR' := lw_V_judge I hR Gx Gm hR14 ec hlx hdm hzm
  refine W.eq (g2 := F0 m 449 ls []) rfl ?_
  refine lv_goto (tgt := 577) hx hb dL_law_449 (by decide) ?_
  exact nxt z' r A' zm' B' H locs ls (⟨I', HC.2⟩) hI' (hR') hP hD hS (lv_sub hl [1, 2, 3, 4] rfl)

set_option maxHeartbeats 8000000 in
set_option maxRecDepth 100000 in
theorem law_12 {p : Program} {e : Env} {s : State} {m : MethodId} {below : List Frame} {meth : Method} {c : Code} (l : Launch) (hlt : l.stackTraces = false) {b Ln : Nat} {xs : Nat → Int32} (hL : Ln ≤ 3072) (C0 : lw_At p s m meth c b Ln xs) {D : va_G} {C Cm : Nat → ClassId} {Ad : Nat → Prop} (hAd : Ad = fun q => s.heap.size ≤ q) (hE : hm_E s) (hXX : hm_X s) (hZU : vx_Zq Bundle.tN "UNASSIGNED_STACK" Bundle.steD Ad s s.heap) (hZN : vx_Zq Bundle.tN "SUPPRESSED_SENTINEL" Bundle.listD Ad s s.heap) (hKx : va_K D vwCl (cw_t C) s) (hKm : va_K D vwCl (mw_t Cm) s) {L : List Nat} {K : Nat → cw_K} {w : Nat → Nat × Nat} {ρ : Nat → Nat} {h om : Nat} {R : Nat → Nat} {n : Nat} {i : Int} (hi : i = 6 * (n : Int)) (hn : 6 * n + 6 ≤ Ln) {z : Nat → Nat → Int} {r : Nat → Nat → Nat} {A : Nat → Nat → Int} {zm : Nat → Int} {Am : Nat → Nat → Int} {H : Heap} {locs : List Loc} {ls : Array Slot} (nxt : ∀ (z : Nat → Nat → Int) (r : Nat → Nat → Nat) (A : Nat → Nat → Int) (zm : Nat → Int) (Am : Nat → Nat → Int) (H : Heap) (locs : List Loc) (ls : Array Slot), ci_C L K r w ρ z A h → mi_I zm Am → lw_V K r h z A zm Am → va_P D vwCl (cw_w C L K z r A ++ mw_w om R Cm zm Am) H → va_D Ad (cw_w C L K z r A ++ mw_w om R Cm zm Am) → va_S Ad s.heap H locs → lv_has ls 5 [(3, .int (hz_i i)), (2, .ref om), (1, .ref h), (0, .ref b)] → W p l e room_1 s m #[Value.ref b] below meth c H locs (2341 + (n + 1)) (683873 + 6 * (n + 1)) (lw_Z below #[Value.ref b] s) (F0 m 577 ls [])) (HC : ci_C L K r w ρ z A h) (hI : mi_I zm Am) (hR : lw_V K r h z A zm Am) (hP : va_P D vwCl (cw_w C L K z r A ++ mw_w om R Cm zm Am) H) (hD : va_D Ad (cw_w C L K z r A ++ mw_w om R Cm zm Am)) (hS : va_S Ad s.heap H locs) (hl : lv_has ls 5 [(3, .int (hz_i i)), (2, .ref om), (1, .ref h), (0, .ref b)]) : W p l e room_1 s m #[Value.ref b] below meth c H locs (2341 + n) (683873 + 6 * n) (lw_Z below #[Value.ref b] s) (F0 m 452 ls []) := by
  obtain ⟨hx, hb, hr, hml, hown, hts0, hX, hbl, hlocks, hgv⟩ := id C0
  have hown : s.vm.findClass RL = some m.cls := hown
  have hts : ∀ w ∈ wsL_law, w.before #[Value.ref b] s = true := fun w h => hts0 w (wsL_law_in w h)
  have hA : ∀ q : Nat, s.heap.size ≤ q → Ad q := fun q h => by rw [hAd]; exact h
  have hbA : ¬ Ad b := by rw [hAd]; exact Nat.not_le.mpr hbl
  have I := HC.1
  have hO : cw_O L K 11 h := I.2.1.1.1
  obtain ⟨⟨⟨hRt, hR15, hR14, σ9, hσ⟩, W9⟩, J9, -⟩ := id hR
  have Gx : z h 14 = 1 → sg_R K r (r h 13) σ9 z A := fun q => (hσ q).1
  have Gm : zm 34 = 1 → mg_R (zm 32).toNat Am σ9 := fun q => (hσ (hR14.trans q)).2
  have ec : zm 34 = 1 → ∀ t, t < 2 → (ce_G K r h z A Am t ↔ me_G zm Am t) := fun q t ht => ce_me ht (Gx (hR14.trans q)) (Gm q)
  refine lv_aload_n hx hb dL_law_452 rfl (lv_at hl 2 rfl) ?_
  refine lv_aload_n hx hb dL_law_453 rfl (lv_at hl 3 rfl) ?_
  refine lv_iload_n hx hb dL_law_454 rfl (lv_at hl 0 rfl) ?_
  refine lv_iconst (v := hz_i 1) hx hb dL_law_455 (by decide +kernel) ?_
  refine hz_iadd hx hb dL_law_456 ?_
  refine va_sld hx hb hX hbl hbA hS (hz_in (i := i + 1) ⟨by omega, by omega⟩ (by omega)) dL_law_457 ?_
  refine lv_topi (fun x_2 ex_2 => ?_)
  obtain ⟨y_1, ry_1, qy_1⟩ := hz_i_of x_2
  subst qy_1
  have ey_1 := ex_2
  refine lv_aload_n hx hb dL_law_458 rfl (lv_at hl 3 rfl) ?_
  refine lv_iload_n hx hb dL_law_459 rfl (lv_at hl 0 rfl) ?_
  refine lv_iconst (v := hz_i 2) hx hb dL_law_460 (by decide +kernel) ?_
  refine hz_iadd hx hb dL_law_461 ?_
  refine va_sld hx hb hX hbl hbA hS (hz_in (i := i + 2) ⟨by omega, by omega⟩ (by omega)) dL_law_462 ?_
  refine lv_topi (fun x_4 ex_4 => ?_)
  obtain ⟨y_3, ry_3, qy_3⟩ := hz_i_of x_4
  subst qy_3
  have ey_3 := ex_4
  obtain ⟨q8, hq8⟩ := cw_at (C := C) (z := z) (r := r) (A := A) hO.1 hO.2
  have hPc := two_P1 hP
  have hDc := two_D1 hD
  have hFc := two_F hDc hS hA
  refine va_calli (va_runV (As := [.int (hz_i y_1), .int (hz_i y_3)]) (rest := []) ⟨hx, hb, hml, hown, hts⟩ (k_c11_reply l D _ C L K z r A h y_1 y_3 (fun a9 => la_rp ((z h 14 = 1 ∧ (y_1 = 1 ∨ y_1 = 2)) ∧ z (cw_g K (r h 9) (2 + (y_1 - 1).toNat)) 2 = 1 ∧ 0 ≤ y_3 ∧ y_3 < z (cw_g K (r (r h 13) 1) (2 - y_1).toNat) 0) (A (r (cw_g K (r h 7) (y_1 - 1).toNat) 0) (y_3).toNat) a9) (wz_c11_reply I ry_1 ry_3 (fun _ l9 => l9))) (cwV 2 hts gL_law_X11_reply rfl rfl rfl (by decide +kernel) ⟨Nat.le_of_ble_eq_true rfl, Nat.le_of_ble_eq_true rfl⟩) ⟨hm_blind, va_recv hKx hPc (ci := 11) (q0 := q8) rfl hq8, hm_pre hPc hKx hDc hE⟩ rfl rfl hl.1 rfl (lv_room (Nat.le_of_ble_eq_true rfl)) dL_law_463 ⟨(by show 2341 + n + 0 ≤ 601024; omega), (by show 683873 + 6 * n + 0 ≤ 7293034; omega)⟩) hS (fun q _ h => hFc q h) hFc (fun rv_5 u t H1 locs ht hvm hw hB hz1 hk1 hS => ?_)
  obtain ⟨a_rv_5, _, _, _⟩ := u
  obtain ⟨hP1, hK1, hD1⟩ := hB
  rw [ht] at hP1
  obtain ⟨hP, hD⟩ := two_J1 hP hD hk1 hFc hP1 hD1
  generalize H1 = H at hP hS ⊢
  have hP : va_P D vwCl (cw_w C L K z r A ++ mw_w om R Cm zm Am) H := hP
  have hD : va_D Ad (cw_w C L K z r A ++ mw_w om R Cm zm Am) := hD
  obtain ⟨hrv, hw⟩ := hw
  subst hrv
  have hqx := hw
  refine W.eq (g2 := F0 m 466 ls [.int (hz_i a_rv_5)]) rfl ?_
  refine lv_aload_n hx hb dL_law_466 rfl (lv_at hl 1 rfl) ?_
  refine lv_aload_n hx hb dL_law_467 rfl (lv_at hl 3 rfl) ?_
  refine lv_iload_n hx hb dL_law_468 rfl (lv_at hl 0 rfl) ?_
  refine lv_iconst (v := hz_i 1) hx hb dL_law_469 (by decide +kernel) ?_
  refine hz_iadd hx hb dL_law_470 ?_
  refine va_sld hx hb hX hbl hbA hS (hz_in (i := i + 1) ⟨by omega, by omega⟩ (by omega)) dL_law_471 ?_
  refine lv_topi (fun x_6 ex_6 => ?_)
  obtain rfl : x_6 = hz_i y_1 := ex_6.trans ey_1.symm
  refine lv_aload_n hx hb dL_law_472 rfl (lv_at hl 3 rfl) ?_
  refine lv_iload_n hx hb dL_law_473 rfl (lv_at hl 0 rfl) ?_
  refine lv_iconst (v := hz_i 2) hx hb dL_law_474 (by decide +kernel) ?_
  refine hz_iadd hx hb dL_law_475 ?_
  refine va_sld hx hb hX hbl hbA hS (hz_in (i := i + 2) ⟨by omega, by omega⟩ (by omega)) dL_law_476 ?_
  refine lv_topi (fun x_7 ex_7 => ?_)
  obtain rfl : x_7 = hz_i y_3 := ex_7.trans ey_3.symm
  have hPc := two_P2 hP
  have hDc := two_D2 hD
  have hFc := two_F hDc hS hA
  refine va_calli (va_runV (As := [.int (hz_i y_1), .int (hz_i y_3)]) (rest := [.int (hz_i a_rv_5)]) ⟨hx, hb, hml, hown, hts⟩ (k_reply l D _ om R Cm zm Am y_1 y_3 (fun a9 z' => mi_I z' Am ∧ (∀ q, q ≠ 3 → q ≠ 57 → z' q = zm q) ∧ la_rp ((zm 34 = 1 ∧ (y_1 = 1 ∨ y_1 = 2)) ∧ Am 51 (2 + (y_1 - 1).toNat) = 1 ∧ 0 ≤ y_3 ∧ y_3 < σ9 1 (2 - y_1).toNat) (Am 53 (10 * (2 - y_1).toNat + (y_3).toNat)) a9) (wz_reply (σ := σ9) hI ry_1 ry_3 Gm (fun r9 t9 I' l9 => ⟨I', fun q hq _ => lp_U_other hq, l9⟩))) (cwV 2 hts gL_law_X12_reply rfl rfl rfl (by decide +kernel) ⟨Nat.le_of_ble_eq_true rfl, Nat.le_of_ble_eq_true rfl⟩) ⟨hm_blind, va_recv hKm hPc (ci := 12) (q0 := 0) rfl rfl, hm_pre hPc hKm hDc hE⟩ rfl rfl hl.1 rfl (lv_room (Nat.le_of_ble_eq_true rfl)) dL_law_477 ⟨(by show 2341 + n + 0 ≤ 601024; omega), (by show 683873 + 6 * n + 0 ≤ 7293034; omega)⟩) hS (fun q _ h => hFc q h) hFc (fun rv_8 u t H1 locs ht hvm hw hB hz1 hk1 hS => ?_)
  obtain ⟨a_rv_8, zm', _⟩ := u
  obtain ⟨hP1, hK1, hD1⟩ := hB
  rw [ht] at hP1
  obtain ⟨hP, hD⟩ := two_J2 hP hD hk1 hFc hP1 hD1
  generalize H1 = H at hP hS ⊢
  have hP : va_P D vwCl (cw_w C L K z r A ++ mw_w om R Cm zm' Am) H := hP
  have hD : va_D Ad (cw_w C L K z r A ++ mw_w om R Cm zm' Am) := hD
  obtain ⟨hrv, hw⟩ := hw
  subst hrv
  obtain ⟨hI', hzm, hqm⟩ := hw
  have ea := lw_V_reply hR Gx hR14 hqx hqm
  have hR' := lw_V_keep I hR (ci_E_refl _ _ _ _ _ _) hzm (me_refl _)
  refine W.eq (g2 := F0 m 480 ls [.int (hz_i a_rv_8), .int (hz_i a_rv_5)]) rfl ?_
  refine lv_icmp_eq (tgt := 577) hx hb dL_law_480 (by decide) (fun _ => ?_) (fun c9 => absurd (congrArg hz_i ea) c9)
  refine W.widen (k := 2341 + (n + 1)) (n := 683873 + 6 * (n + 1)) (by omega) (by omega) ?_
  exact nxt z r A zm' Am H locs ls (HC) hI' (hR') hP hD hS (lv_sub hl [0, 1, 2, 3] rfl)

set_option maxHeartbeats 8000000 in
set_option maxRecDepth 100000 in
theorem law_13 {p : Program} {e : Env} {s : State} {m : MethodId} {below : List Frame} {meth : Method} {c : Code} (l : Launch) (hlt : l.stackTraces = false) {b Ln : Nat} {xs : Nat → Int32} (hL : Ln ≤ 3072) (C0 : lw_At p s m meth c b Ln xs) {D : va_G} {C Cm : Nat → ClassId} {Ad : Nat → Prop} (hAd : Ad = fun q => s.heap.size ≤ q) (hE : hm_E s) (hXX : hm_X s) (hZU : vx_Zq Bundle.tN "UNASSIGNED_STACK" Bundle.steD Ad s s.heap) (hZN : vx_Zq Bundle.tN "SUPPRESSED_SENTINEL" Bundle.listD Ad s s.heap) (hKx : va_K D vwCl (cw_t C) s) (hKm : va_K D vwCl (mw_t Cm) s) {L : List Nat} {K : Nat → cw_K} {w : Nat → Nat × Nat} {ρ : Nat → Nat} {h om : Nat} {R : Nat → Nat} {n : Nat} {i : Int} (hi : i = 6 * (n : Int)) (hn : 6 * n + 6 ≤ Ln) {z : Nat → Nat → Int} {r : Nat → Nat → Nat} {A : Nat → Nat → Int} {zm : Nat → Int} {Am : Nat → Nat → Int} {H : Heap} {locs : List Loc} {ls : Array Slot} (nxt : ∀ (z : Nat → Nat → Int) (r : Nat → Nat → Nat) (A : Nat → Nat → Int) (zm : Nat → Int) (Am : Nat → Nat → Int) (H : Heap) (locs : List Loc) (ls : Array Slot), ci_C L K r w ρ z A h → mi_I zm Am → lw_V K r h z A zm Am → va_P D vwCl (cw_w C L K z r A ++ mw_w om R Cm zm Am) H → va_D Ad (cw_w C L K z r A ++ mw_w om R Cm zm Am) → va_S Ad s.heap H locs → lv_has ls 5 [(3, .int (hz_i i)), (2, .ref om), (1, .ref h), (0, .ref b)] → W p l e room_1 s m #[Value.ref b] below meth c H locs (2341 + (n + 1)) (683873 + 6 * (n + 1)) (lw_Z below #[Value.ref b] s) (F0 m 577 ls [])) (HC : ci_C L K r w ρ z A h) (hI : mi_I zm Am) (hR : lw_V K r h z A zm Am) (hP : va_P D vwCl (cw_w C L K z r A ++ mw_w om R Cm zm Am) H) (hD : va_D Ad (cw_w C L K z r A ++ mw_w om R Cm zm Am)) (hS : va_S Ad s.heap H locs) (hl : lv_has ls 5 [(3, .int (hz_i i)), (2, .ref om), (1, .ref h), (0, .ref b)]) : W p l e room_1 s m #[Value.ref b] below meth c H locs (2341 + n) (683873 + 6 * n) (lw_Z below #[Value.ref b] s) (F0 m 485 ls []) := by
  obtain ⟨hx, hb, hr, hml, hown, hts0, hX, hbl, hlocks, hgv⟩ := id C0
  have hown : s.vm.findClass RL = some m.cls := hown
  have hts : ∀ w ∈ wsL_law, w.before #[Value.ref b] s = true := fun w h => hts0 w (wsL_law_in w h)
  have hA : ∀ q : Nat, s.heap.size ≤ q → Ad q := fun q h => by rw [hAd]; exact h
  have hbA : ¬ Ad b := by rw [hAd]; exact Nat.not_le.mpr hbl
  have I := HC.1
  have hO : cw_O L K 11 h := I.2.1.1.1
  obtain ⟨⟨⟨hRt, hR15, hR14, σ9, hσ⟩, W9⟩, J9, -⟩ := id hR
  have Gx : z h 14 = 1 → sg_R K r (r h 13) σ9 z A := fun q => (hσ q).1
  have Gm : zm 34 = 1 → mg_R (zm 32).toNat Am σ9 := fun q => (hσ (hR14.trans q)).2
  have ec : zm 34 = 1 → ∀ t, t < 2 → (ce_G K r h z A Am t ↔ me_G zm Am t) := fun q t ht => ce_me ht (Gx (hR14.trans q)) (Gm q)
  refine lv_aload_n hx hb dL_law_485 rfl (lv_at hl 2 rfl) ?_
  refine lv_aload_n hx hb dL_law_486 rfl (lv_at hl 3 rfl) ?_
  refine lv_iload_n hx hb dL_law_487 rfl (lv_at hl 0 rfl) ?_
  refine lv_iconst (v := hz_i 1) hx hb dL_law_488 (by decide +kernel) ?_
  refine hz_iadd hx hb dL_law_489 ?_
  refine va_sld hx hb hX hbl hbA hS (hz_in (i := i + 1) ⟨by omega, by omega⟩ (by omega)) dL_law_490 ?_
  refine lv_topi (fun x_2 ex_2 => ?_)
  obtain ⟨y_1, ry_1, qy_1⟩ := hz_i_of x_2
  subst qy_1
  have ey_1 := ex_2
  obtain ⟨q8, hq8⟩ := cw_at (C := C) (z := z) (r := r) (A := A) hO.1 hO.2
  have hPc := two_P1 hP
  have hDc := two_D1 hD
  have hFc := two_F hDc hS hA
  refine va_calli (va_runV (As := [.int (hz_i y_1)]) (rest := []) ⟨hx, hb, hml, hown, hts⟩ (k_c11_print l D _ C L K z r A h y_1 (fun _ z' A' => ci_I L K r w ρ z' A' h ∧ ci_E K r ρ h z A z' A') (we_c11_print I ry_1 (fun _ z' A' I' _ d' => ⟨I', d'⟩))) (cwV 1 hts gL_law_X11_print rfl rfl rfl (by decide +kernel) ⟨Nat.le_of_ble_eq_true rfl, Nat.le_of_ble_eq_true rfl⟩) ⟨hm_blind, va_recv hKx hPc (ci := 11) (q0 := q8) rfl hq8, hm_pre hPc hKx hDc hE⟩ rfl rfl hl.1 rfl (lv_room (Nat.le_of_ble_eq_true rfl)) dL_law_491 ⟨(by show 2341 + n + 0 ≤ 601024; omega), (by show 683873 + 6 * n + 0 ≤ 7293034; omega)⟩) hS (fun q _ h => hFc q h) hFc (fun rv_3 u t H1 locs ht hvm hw hB hz1 hk1 hS => ?_)
  obtain ⟨a_rv_3, z', _, A'⟩ := u
  obtain ⟨hP1, hK1, hD1⟩ := hB
  rw [ht] at hP1
  obtain ⟨hP, hD⟩ := two_J1 hP hD hk1 hFc hP1 hD1
  generalize H1 = H at hP hS ⊢
  have hP : va_P D vwCl (cw_w C L K z' r A' ++ mw_w om R Cm zm Am) H := hP
  have hD : va_D Ad (cw_w C L K z' r A' ++ mw_w om R Cm zm Am) := hD
  obtain ⟨hrv, hw⟩ := hw
  subst hrv
  obtain ⟨I', hlx⟩ := hw
  refine W.eq (g2 := F0 m 494 ls [.int (hz_i a_rv_3)]) rfl ?_
  refine lv_pop hx hb dL_law_494 rfl ?_
  refine lv_aload_n hx hb dL_law_495 rfl (lv_at hl 1 rfl) ?_
  refine lv_aload_n hx hb dL_law_496 rfl (lv_at hl 3 rfl) ?_
  refine lv_iload_n hx hb dL_law_497 rfl (lv_at hl 0 rfl) ?_
  refine lv_iconst (v := hz_i 1) hx hb dL_law_498 (by decide +kernel) ?_
  refine hz_iadd hx hb dL_law_499 ?_
  refine va_sld hx hb hX hbl hbA hS (hz_in (i := i + 1) ⟨by omega, by omega⟩ (by omega)) dL_law_500 ?_
  refine lv_topi (fun x_4 ex_4 => ?_)
  obtain rfl : x_4 = hz_i y_1 := ex_4.trans ey_1.symm
  have hPc := two_P2 hP
  have hDc := two_D2 hD
  have hFc := two_F hDc hS hA
  refine va_calli (va_runV (As := [.int (hz_i y_1)]) (rest := []) ⟨hx, hb, hml, hown, hts⟩ (k_print l D _ om R Cm zm Am y_1 (fun _ z' B => mi_I z' B ∧ (∀ q, q ≠ 3 → q ≠ 57 → z' q = zm q) ∧ me_Z Am B) (we_printC hI ry_1 (fun r9 z' B e9 I' d' => ⟨I', e9, d'⟩))) (cwV 1 hts gL_law_X12_print rfl rfl rfl (by decide +kernel) ⟨Nat.le_of_ble_eq_true rfl, Nat.le_of_ble_eq_true rfl⟩) ⟨hm_blind, va_recv hKm hPc (ci := 12) (q0 := 0) rfl rfl, hm_pre hPc hKm hDc hE⟩ rfl rfl hl.1 rfl (lv_room (Nat.le_of_ble_eq_true rfl)) dL_law_501 ⟨(by show 2341 + n + 0 ≤ 601024; omega), (by show 683873 + 6 * n + 0 ≤ 7293034; omega)⟩) hS (fun q _ h => hFc q h) hFc (fun rv_5 u t H1 locs ht hvm hw hB hz1 hk1 hS => ?_)
  obtain ⟨a_rv_5, zm', B'⟩ := u
  obtain ⟨hP1, hK1, hD1⟩ := hB
  rw [ht] at hP1
  obtain ⟨hP, hD⟩ := two_J2 hP hD hk1 hFc hP1 hD1
  generalize H1 = H at hP hS ⊢
  have hP : va_P D vwCl (cw_w C L K z' r A' ++ mw_w om R Cm zm' B') H := hP
  have hD : va_D Ad (cw_w C L K z' r A' ++ mw_w om R Cm zm' B') := hD
  obtain ⟨hrv, hw⟩ := hw
  subst hrv
  obtain ⟨hI', hzm, hdm⟩ := hw
  have hR' := lw_V_keep I hR hlx hzm hdm
  refine W.eq (g2 := F0 m 504 ls [.int (hz_i a_rv_5)]) rfl ?_
  refine lv_pop hx hb dL_law_504 rfl ?_
  refine lv_goto (tgt := 577) hx hb dL_law_505 (by decide) ?_
  refine W.widen (k := 2341 + (n + 1)) (n := 683873 + 6 * (n + 1)) (by omega) (by omega) ?_
  exact nxt z' r A' zm' B' H locs ls (⟨I', HC.2⟩) hI' (hR') hP hD hS (lv_sub hl [0, 1, 2, 3] rfl)

set_option maxHeartbeats 8000000 in
set_option maxRecDepth 100000 in
theorem law_14 {p : Program} {e : Env} {s : State} {m : MethodId} {below : List Frame} {meth : Method} {c : Code} (l : Launch) (hlt : l.stackTraces = false) {b Ln : Nat} {xs : Nat → Int32} (hL : Ln ≤ 3072) (C0 : lw_At p s m meth c b Ln xs) {D : va_G} {C Cm : Nat → ClassId} {Ad : Nat → Prop} (hAd : Ad = fun q => s.heap.size ≤ q) (hE : hm_E s) (hXX : hm_X s) (hZU : vx_Zq Bundle.tN "UNASSIGNED_STACK" Bundle.steD Ad s s.heap) (hZN : vx_Zq Bundle.tN "SUPPRESSED_SENTINEL" Bundle.listD Ad s s.heap) (hKx : va_K D vwCl (cw_t C) s) (hKm : va_K D vwCl (mw_t Cm) s) {L : List Nat} {K : Nat → cw_K} {w : Nat → Nat × Nat} {ρ : Nat → Nat} {h om : Nat} {R : Nat → Nat} {n : Nat} {i : Int} (hi : i = 6 * (n : Int)) (hn : 6 * n + 6 ≤ Ln) {z : Nat → Nat → Int} {r : Nat → Nat → Nat} {A : Nat → Nat → Int} {zm : Nat → Int} {Am : Nat → Nat → Int} {H : Heap} {locs : List Loc} {ls : Array Slot} (nxt : ∀ (z : Nat → Nat → Int) (r : Nat → Nat → Nat) (A : Nat → Nat → Int) (zm : Nat → Int) (Am : Nat → Nat → Int) (H : Heap) (locs : List Loc) (ls : Array Slot), ci_C L K r w ρ z A h → mi_I zm Am → lw_V K r h z A zm Am → va_P D vwCl (cw_w C L K z r A ++ mw_w om R Cm zm Am) H → va_D Ad (cw_w C L K z r A ++ mw_w om R Cm zm Am) → va_S Ad s.heap H locs → lv_has ls 5 [(3, .int (hz_i i)), (2, .ref om), (1, .ref h), (0, .ref b)] → W p l e room_1 s m #[Value.ref b] below meth c H locs (2341 + (n + 1)) (683873 + 6 * (n + 1)) (lw_Z below #[Value.ref b] s) (F0 m 577 ls [])) (HC : ci_C L K r w ρ z A h) (hI : mi_I zm Am) (hR : lw_V K r h z A zm Am) (hP : va_P D vwCl (cw_w C L K z r A ++ mw_w om R Cm zm Am) H) (hD : va_D Ad (cw_w C L K z r A ++ mw_w om R Cm zm Am)) (hS : va_S Ad s.heap H locs) (hl : lv_has ls 5 [(3, .int (hz_i i)), (2, .ref om), (1, .ref h), (0, .ref b)]) : W p l e room_1 s m #[Value.ref b] below meth c H locs (2341 + n) (683873 + 6 * n) (lw_Z below #[Value.ref b] s) (F0 m 508 ls []) := by
  obtain ⟨hx, hb, hr, hml, hown, hts0, hX, hbl, hlocks, hgv⟩ := id C0
  have hown : s.vm.findClass RL = some m.cls := hown
  have hts : ∀ w ∈ wsL_law, w.before #[Value.ref b] s = true := fun w h => hts0 w (wsL_law_in w h)
  have hA : ∀ q : Nat, s.heap.size ≤ q → Ad q := fun q h => by rw [hAd]; exact h
  have hbA : ¬ Ad b := by rw [hAd]; exact Nat.not_le.mpr hbl
  have I := HC.1
  have hO : cw_O L K 11 h := I.2.1.1.1
  obtain ⟨⟨⟨hRt, hR15, hR14, σ9, hσ⟩, W9⟩, J9, -⟩ := id hR
  have Gx : z h 14 = 1 → sg_R K r (r h 13) σ9 z A := fun q => (hσ q).1
  have Gm : zm 34 = 1 → mg_R (zm 32).toNat Am σ9 := fun q => (hσ (hR14.trans q)).2
  have ec : zm 34 = 1 → ∀ t, t < 2 → (ce_G K r h z A Am t ↔ me_G zm Am t) := fun q t ht => ce_me ht (Gx (hR14.trans q)) (Gm q)
  refine lv_aload_n hx hb dL_law_508 rfl (lv_at hl 2 rfl) ?_
  refine lv_aload_n hx hb dL_law_509 rfl (lv_at hl 3 rfl) ?_
  refine lv_iload_n hx hb dL_law_510 rfl (lv_at hl 0 rfl) ?_
  refine lv_iconst (v := hz_i 1) hx hb dL_law_511 (by decide +kernel) ?_
  refine hz_iadd hx hb dL_law_512 ?_
  refine va_sld hx hb hX hbl hbA hS (hz_in (i := i + 1) ⟨by omega, by omega⟩ (by omega)) dL_law_513 ?_
  refine lv_topi (fun x_2 ex_2 => ?_)
  obtain ⟨y_1, ry_1, qy_1⟩ := hz_i_of x_2
  subst qy_1
  have ey_1 := ex_2
  obtain ⟨q8, hq8⟩ := cw_at (C := C) (z := z) (r := r) (A := A) hO.1 hO.2
  have hPc := two_P1 hP
  have hDc := two_D1 hD
  have hFc := two_F hDc hS hA
  refine va_calli (va_runV (As := [.int (hz_i y_1)]) (rest := []) ⟨hx, hb, hml, hown, hts⟩ (k_c11_character l D _ C L K z r A h y_1 (fun _ => True) (wq_c11_character I ry_1 (fun _ => trivial))) (cwV 1 hts gL_law_X11_character rfl rfl rfl (by decide +kernel) ⟨Nat.le_of_ble_eq_true rfl, Nat.le_of_ble_eq_true rfl⟩) ⟨hm_blind, va_recv hKx hPc (ci := 11) (q0 := q8) rfl hq8, hm_pre hPc hKx hDc hE⟩ rfl rfl hl.1 rfl (lv_room (Nat.le_of_ble_eq_true rfl)) dL_law_514 ⟨(by show 2341 + n + 0 ≤ 601024; omega), (by show 683873 + 6 * n + 0 ≤ 7293034; omega)⟩) hS (fun q _ h => hFc q h) hFc (fun rv_3 u t H1 locs ht hvm hw hB hz1 hk1 hS => ?_)
  obtain ⟨a_rv_3, _, _, _⟩ := u
  obtain ⟨hP1, hK1, hD1⟩ := hB
  rw [ht] at hP1
  obtain ⟨hP, hD⟩ := two_J1 hP hD hk1 hFc hP1 hD1
  generalize H1 = H at hP hS ⊢
  have hP : va_P D vwCl (cw_w C L K z r A ++ mw_w om R Cm zm Am) H := hP
  have hD : va_D Ad (cw_w C L K z r A ++ mw_w om R Cm zm Am) := hD
  obtain ⟨hrv, hw⟩ := hw
  subst hrv
  refine W.eq (g2 := F0 m 517 ls [.int (hz_i a_rv_3)]) rfl ?_
  refine lv_pop hx hb dL_law_517 rfl ?_
  refine lv_aload_n hx hb dL_law_518 rfl (lv_at hl 1 rfl) ?_
  refine lv_aload_n hx hb dL_law_519 rfl (lv_at hl 3 rfl) ?_
  refine lv_iload_n hx hb dL_law_520 rfl (lv_at hl 0 rfl) ?_
  refine lv_iconst (v := hz_i 1) hx hb dL_law_521 (by decide +kernel) ?_
  refine hz_iadd hx hb dL_law_522 ?_
  refine va_sld hx hb hX hbl hbA hS (hz_in (i := i + 1) ⟨by omega, by omega⟩ (by omega)) dL_law_523 ?_
  refine lv_topi (fun x_4 ex_4 => ?_)
  obtain rfl : x_4 = hz_i y_1 := ex_4.trans ey_1.symm
  have hPc := two_P2 hP
  have hDc := two_D2 hD
  have hFc := two_F hDc hS hA
  refine va_calli (va_runV (As := [.int (hz_i y_1)]) (rest := []) ⟨hx, hb, hml, hown, hts⟩ (k_character l D _ om R Cm zm Am y_1 (fun _ z' => mi_I z' Am ∧ (∀ q, q ≠ 3 → q ≠ 57 → z' q = zm q)) (wq_character hI ry_1 (fun r9 t9 I' => ⟨I', fun q hq _ => lp_U_other hq⟩))) (cwV 1 hts gL_law_X12_character rfl rfl rfl (by decide +kernel) ⟨Nat.le_of_ble_eq_true rfl, Nat.le_of_ble_eq_true rfl⟩) ⟨hm_blind, va_recv hKm hPc (ci := 12) (q0 := 0) rfl rfl, hm_pre hPc hKm hDc hE⟩ rfl rfl hl.1 rfl (lv_room (Nat.le_of_ble_eq_true rfl)) dL_law_524 ⟨(by show 2341 + n + 0 ≤ 601024; omega), (by show 683873 + 6 * n + 0 ≤ 7293034; omega)⟩) hS (fun q _ h => hFc q h) hFc (fun rv_5 u t H1 locs ht hvm hw hB hz1 hk1 hS => ?_)
  obtain ⟨a_rv_5, zm', _⟩ := u
  obtain ⟨hP1, hK1, hD1⟩ := hB
  rw [ht] at hP1
  obtain ⟨hP, hD⟩ := two_J2 hP hD hk1 hFc hP1 hD1
  generalize H1 = H at hP hS ⊢
  have hP : va_P D vwCl (cw_w C L K z r A ++ mw_w om R Cm zm' Am) H := hP
  have hD : va_D Ad (cw_w C L K z r A ++ mw_w om R Cm zm' Am) := hD
  obtain ⟨hrv, hw⟩ := hw
  subst hrv
  obtain ⟨hI', hzm⟩ := hw
  have hR' := lw_V_keep I hR (ci_E_refl _ _ _ _ _ _) hzm (me_refl _)
  refine W.eq (g2 := F0 m 527 ls [.int (hz_i a_rv_5)]) rfl ?_
  refine lv_pop hx hb dL_law_527 rfl ?_
  refine lv_goto (tgt := 577) hx hb dL_law_528 (by decide) ?_
  refine W.widen (k := 2341 + (n + 1)) (n := 683873 + 6 * (n + 1)) (by omega) (by omega) ?_
  exact nxt z r A zm' Am H locs ls (HC) hI' (hR') hP hD hS (lv_sub hl [0, 1, 2, 3] rfl)

set_option maxHeartbeats 8000000 in
set_option maxRecDepth 100000 in
theorem law_15 {p : Program} {e : Env} {s : State} {m : MethodId} {below : List Frame} {meth : Method} {c : Code} (l : Launch) (hlt : l.stackTraces = false) {b Ln : Nat} {xs : Nat → Int32} (hL : Ln ≤ 3072) (C0 : lw_At p s m meth c b Ln xs) {D : va_G} {C Cm : Nat → ClassId} {Ad : Nat → Prop} (hAd : Ad = fun q => s.heap.size ≤ q) (hE : hm_E s) (hXX : hm_X s) (hZU : vx_Zq Bundle.tN "UNASSIGNED_STACK" Bundle.steD Ad s s.heap) (hZN : vx_Zq Bundle.tN "SUPPRESSED_SENTINEL" Bundle.listD Ad s s.heap) (hKx : va_K D vwCl (cw_t C) s) (hKm : va_K D vwCl (mw_t Cm) s) {L : List Nat} {K : Nat → cw_K} {w : Nat → Nat × Nat} {ρ : Nat → Nat} {h om : Nat} {R : Nat → Nat} {n : Nat} {i : Int} (hi : i = 6 * (n : Int)) (hn : 6 * n + 6 ≤ Ln) {z : Nat → Nat → Int} {r : Nat → Nat → Nat} {A : Nat → Nat → Int} {zm : Nat → Int} {Am : Nat → Nat → Int} {H : Heap} {locs : List Loc} {ls : Array Slot} (nxt : ∀ (z : Nat → Nat → Int) (r : Nat → Nat → Nat) (A : Nat → Nat → Int) (zm : Nat → Int) (Am : Nat → Nat → Int) (H : Heap) (locs : List Loc) (ls : Array Slot), ci_C L K r w ρ z A h → mi_I zm Am → lw_V K r h z A zm Am → va_P D vwCl (cw_w C L K z r A ++ mw_w om R Cm zm Am) H → va_D Ad (cw_w C L K z r A ++ mw_w om R Cm zm Am) → va_S Ad s.heap H locs → lv_has ls 5 [(3, .int (hz_i i)), (2, .ref om), (1, .ref h), (0, .ref b)] → W p l e room_1 s m #[Value.ref b] below meth c H locs (2341 + (n + 1)) (683873 + 6 * (n + 1)) (lw_Z below #[Value.ref b] s) (F0 m 577 ls [])) (HC : ci_C L K r w ρ z A h) (hI : mi_I zm Am) (hR : lw_V K r h z A zm Am) (hP : va_P D vwCl (cw_w C L K z r A ++ mw_w om R Cm zm Am) H) (hD : va_D Ad (cw_w C L K z r A ++ mw_w om R Cm zm Am)) (hS : va_S Ad s.heap H locs) (hl : lv_has ls 5 [(3, .int (hz_i i)), (2, .ref om), (1, .ref h), (0, .ref b)]) : W p l e room_1 s m #[Value.ref b] below meth c H locs (2341 + n) (683873 + 6 * n) (lw_Z below #[Value.ref b] s) (F0 m 531 ls []) := by
  obtain ⟨hx, hb, hr, hml, hown, hts0, hX, hbl, hlocks, hgv⟩ := id C0
  have hown : s.vm.findClass RL = some m.cls := hown
  have hts : ∀ w ∈ wsL_law, w.before #[Value.ref b] s = true := fun w h => hts0 w (wsL_law_in w h)
  have hA : ∀ q : Nat, s.heap.size ≤ q → Ad q := fun q h => by rw [hAd]; exact h
  have hbA : ¬ Ad b := by rw [hAd]; exact Nat.not_le.mpr hbl
  have I := HC.1
  have hO : cw_O L K 11 h := I.2.1.1.1
  obtain ⟨⟨⟨hRt, hR15, hR14, σ9, hσ⟩, W9⟩, J9, -⟩ := id hR
  have Gx : z h 14 = 1 → sg_R K r (r h 13) σ9 z A := fun q => (hσ q).1
  have Gm : zm 34 = 1 → mg_R (zm 32).toNat Am σ9 := fun q => (hσ (hR14.trans q)).2
  have ec : zm 34 = 1 → ∀ t, t < 2 → (ce_G K r h z A Am t ↔ me_G zm Am t) := fun q t ht => ce_me ht (Gx (hR14.trans q)) (Gm q)
  refine lv_aload_n hx hb dL_law_531 rfl (lv_at hl 2 rfl) ?_
  refine lv_aload_n hx hb dL_law_532 rfl (lv_at hl 3 rfl) ?_
  refine lv_iload_n hx hb dL_law_533 rfl (lv_at hl 0 rfl) ?_
  refine lv_iconst (v := hz_i 1) hx hb dL_law_534 (by decide +kernel) ?_
  refine hz_iadd hx hb dL_law_535 ?_
  refine va_sld hx hb hX hbl hbA hS (hz_in (i := i + 1) ⟨by omega, by omega⟩ (by omega)) dL_law_536 ?_
  refine lv_topi (fun x_2 ex_2 => ?_)
  obtain ⟨y_1, ry_1, qy_1⟩ := hz_i_of x_2
  subst qy_1
  have ey_1 := ex_2
  refine lv_aload_n hx hb dL_law_537 rfl (lv_at hl 3 rfl) ?_
  refine lv_iload_n hx hb dL_law_538 rfl (lv_at hl 0 rfl) ?_
  refine lv_iconst (v := hz_i 2) hx hb dL_law_539 (by decide +kernel) ?_
  refine hz_iadd hx hb dL_law_540 ?_
  refine va_sld hx hb hX hbl hbA hS (hz_in (i := i + 2) ⟨by omega, by omega⟩ (by omega)) dL_law_541 ?_
  refine lv_topi (fun x_4 ex_4 => ?_)
  obtain ⟨y_3, ry_3, qy_3⟩ := hz_i_of x_4
  subst qy_3
  have ey_3 := ex_4
  obtain ⟨q8, hq8⟩ := cw_at (C := C) (z := z) (r := r) (A := A) hO.1 hO.2
  have hPc := two_P1 hP
  have hDc := two_D1 hD
  have hFc := two_F hDc hS hA
  refine va_calli (va_runV (As := [.int (hz_i y_1), .int (hz_i y_3)]) (rest := []) ⟨hx, hb, hml, hown, hts⟩ (k_c11_compare l D _ C L K z r A h y_1 y_3 (fun _ z' A' => ci_I L K r w ρ z' A' h ∧ ci_E K r ρ h z A z' A') (we_c11_compare I ry_1 ry_3 (fun _ z' A' I' _ d' => ⟨I', d'⟩))) (cwV 2 hts gL_law_X11_compare rfl rfl rfl (by decide +kernel) ⟨Nat.le_of_ble_eq_true rfl, Nat.le_of_ble_eq_true rfl⟩) ⟨hm_blind, va_recv hKx hPc (ci := 11) (q0 := q8) rfl hq8, hm_pre hPc hKx hDc hE⟩ rfl rfl hl.1 rfl (lv_room (Nat.le_of_ble_eq_true rfl)) dL_law_542 ⟨(by show 2341 + n + 0 ≤ 601024; omega), (by show 683873 + 6 * n + 0 ≤ 7293034; omega)⟩) hS (fun q _ h => hFc q h) hFc (fun rv_5 u t H1 locs ht hvm hw hB hz1 hk1 hS => ?_)
  obtain ⟨a_rv_5, z', _, A'⟩ := u
  obtain ⟨hP1, hK1, hD1⟩ := hB
  rw [ht] at hP1
  obtain ⟨hP, hD⟩ := two_J1 hP hD hk1 hFc hP1 hD1
  generalize H1 = H at hP hS ⊢
  have hP : va_P D vwCl (cw_w C L K z' r A' ++ mw_w om R Cm zm Am) H := hP
  have hD : va_D Ad (cw_w C L K z' r A' ++ mw_w om R Cm zm Am) := hD
  obtain ⟨hrv, hw⟩ := hw
  subst hrv
  obtain ⟨I', hlx⟩ := hw
  refine W.eq (g2 := F0 m 545 ls [.int (hz_i a_rv_5)]) rfl ?_
  refine lv_pop hx hb dL_law_545 rfl ?_
  refine lv_aload_n hx hb dL_law_546 rfl (lv_at hl 1 rfl) ?_
  refine lv_aload_n hx hb dL_law_547 rfl (lv_at hl 3 rfl) ?_
  refine lv_iload_n hx hb dL_law_548 rfl (lv_at hl 0 rfl) ?_
  refine lv_iconst (v := hz_i 1) hx hb dL_law_549 (by decide +kernel) ?_
  refine hz_iadd hx hb dL_law_550 ?_
  refine va_sld hx hb hX hbl hbA hS (hz_in (i := i + 1) ⟨by omega, by omega⟩ (by omega)) dL_law_551 ?_
  refine lv_topi (fun x_6 ex_6 => ?_)
  obtain rfl : x_6 = hz_i y_1 := ex_6.trans ey_1.symm
  refine lv_aload_n hx hb dL_law_552 rfl (lv_at hl 3 rfl) ?_
  refine lv_iload_n hx hb dL_law_553 rfl (lv_at hl 0 rfl) ?_
  refine lv_iconst (v := hz_i 2) hx hb dL_law_554 (by decide +kernel) ?_
  refine hz_iadd hx hb dL_law_555 ?_
  refine va_sld hx hb hX hbl hbA hS (hz_in (i := i + 2) ⟨by omega, by omega⟩ (by omega)) dL_law_556 ?_
  refine lv_topi (fun x_7 ex_7 => ?_)
  obtain rfl : x_7 = hz_i y_3 := ex_7.trans ey_3.symm
  have hPc := two_P2 hP
  have hDc := two_D2 hD
  have hFc := two_F hDc hS hA
  refine va_calli (va_runV (As := [.int (hz_i y_1), .int (hz_i y_3)]) (rest := []) ⟨hx, hb, hml, hown, hts⟩ (k_compare l D _ om R Cm zm Am y_1 y_3 (fun _ z' B => mi_I z' B ∧ (∀ q, q ≠ 3 → q ≠ 57 → z' q = zm q) ∧ me_Z Am B) (we_compare hI ry_1 ry_3 (fun r9 t9 B I' d' => ⟨I', fun q hq _ => lp_U_other hq, d'⟩))) (cwV 2 hts gL_law_X12_compare rfl rfl rfl (by decide +kernel) ⟨Nat.le_of_ble_eq_true rfl, Nat.le_of_ble_eq_true rfl⟩) ⟨hm_blind, va_recv hKm hPc (ci := 12) (q0 := 0) rfl rfl, hm_pre hPc hKm hDc hE⟩ rfl rfl hl.1 rfl (lv_room (Nat.le_of_ble_eq_true rfl)) dL_law_557 ⟨(by show 2341 + n + 0 ≤ 601024; omega), (by show 683873 + 6 * n + 0 ≤ 7293034; omega)⟩) hS (fun q _ h => hFc q h) hFc (fun rv_8 u t H1 locs ht hvm hw hB hz1 hk1 hS => ?_)
  obtain ⟨a_rv_8, zm', B'⟩ := u
  obtain ⟨hP1, hK1, hD1⟩ := hB
  rw [ht] at hP1
  obtain ⟨hP, hD⟩ := two_J2 hP hD hk1 hFc hP1 hD1
  generalize H1 = H at hP hS ⊢
  have hP : va_P D vwCl (cw_w C L K z' r A' ++ mw_w om R Cm zm' B') H := hP
  have hD : va_D Ad (cw_w C L K z' r A' ++ mw_w om R Cm zm' B') := hD
  obtain ⟨hrv, hw⟩ := hw
  subst hrv
  obtain ⟨hI', hzm, hdm⟩ := hw
  have hR' := lw_V_keep I hR hlx hzm hdm
  refine W.eq (g2 := F0 m 560 ls [.int (hz_i a_rv_8)]) rfl ?_
  refine lv_pop hx hb dL_law_560 rfl ?_
  refine lv_goto (tgt := 577) hx hb dL_law_561 (by decide) ?_
  refine W.widen (k := 2341 + (n + 1)) (n := 683873 + 6 * (n + 1)) (by omega) (by omega) ?_
  exact nxt z' r A' zm' B' H locs ls (⟨I', HC.2⟩) hI' (hR') hP hD hS (lv_sub hl [0, 1, 2, 3] rfl)

set_option maxHeartbeats 8000000 in
set_option maxRecDepth 100000 in
theorem law_16 {p : Program} {e : Env} {s : State} {m : MethodId} {below : List Frame} {meth : Method} {c : Code} (l : Launch) (hlt : l.stackTraces = false) {b Ln : Nat} {xs : Nat → Int32} (hL : Ln ≤ 3072) (C0 : lw_At p s m meth c b Ln xs) {D : va_G} {C Cm : Nat → ClassId} {Ad : Nat → Prop} (hAd : Ad = fun q => s.heap.size ≤ q) (hE : hm_E s) (hXX : hm_X s) (hZU : vx_Zq Bundle.tN "UNASSIGNED_STACK" Bundle.steD Ad s s.heap) (hZN : vx_Zq Bundle.tN "SUPPRESSED_SENTINEL" Bundle.listD Ad s s.heap) (hKx : va_K D vwCl (cw_t C) s) (hKm : va_K D vwCl (mw_t Cm) s) {L : List Nat} {K : Nat → cw_K} {w : Nat → Nat × Nat} {ρ : Nat → Nat} {h om : Nat} {R : Nat → Nat} {n : Nat} {i : Int} (hi : i = 6 * (n : Int)) (hn : 6 * n + 6 ≤ Ln) {z : Nat → Nat → Int} {r : Nat → Nat → Nat} {A : Nat → Nat → Int} {zm : Nat → Int} {Am : Nat → Nat → Int} {H : Heap} {locs : List Loc} {ls : Array Slot} (nxt : ∀ (z : Nat → Nat → Int) (r : Nat → Nat → Nat) (A : Nat → Nat → Int) (zm : Nat → Int) (Am : Nat → Nat → Int) (H : Heap) (locs : List Loc) (ls : Array Slot), ci_C L K r w ρ z A h → mi_I zm Am → lw_V K r h z A zm Am → va_P D vwCl (cw_w C L K z r A ++ mw_w om R Cm zm Am) H → va_D Ad (cw_w C L K z r A ++ mw_w om R Cm zm Am) → va_S Ad s.heap H locs → lv_has ls 5 [(3, .int (hz_i i)), (2, .ref om), (1, .ref h), (0, .ref b)] → W p l e room_1 s m #[Value.ref b] below meth c H locs (2341 + (n + 1)) (683873 + 6 * (n + 1)) (lw_Z below #[Value.ref b] s) (F0 m 577 ls [])) (HC : ci_C L K r w ρ z A h) (hI : mi_I zm Am) (hR : lw_V K r h z A zm Am) (hP : va_P D vwCl (cw_w C L K z r A ++ mw_w om R Cm zm Am) H) (hD : va_D Ad (cw_w C L K z r A ++ mw_w om R Cm zm Am)) (hS : va_S Ad s.heap H locs) (hl : lv_has ls 5 [(3, .int (hz_i i)), (2, .ref om), (1, .ref h), (0, .ref b)]) : W p l e room_1 s m #[Value.ref b] below meth c H locs (2341 + n) (683873 + 6 * n) (lw_Z below #[Value.ref b] s) (F0 m 564 ls []) := by
  obtain ⟨hx, hb, hr, hml, hown, hts0, hX, hbl, hlocks, hgv⟩ := id C0
  have hown : s.vm.findClass RL = some m.cls := hown
  have hts : ∀ w ∈ wsL_law, w.before #[Value.ref b] s = true := fun w h => hts0 w (wsL_law_in w h)
  have hA : ∀ q : Nat, s.heap.size ≤ q → Ad q := fun q h => by rw [hAd]; exact h
  have hbA : ¬ Ad b := by rw [hAd]; exact Nat.not_le.mpr hbl
  have I := HC.1
  have hO : cw_O L K 11 h := I.2.1.1.1
  obtain ⟨⟨⟨hRt, hR15, hR14, σ9, hσ⟩, W9⟩, J9, -⟩ := id hR
  have Gx : z h 14 = 1 → sg_R K r (r h 13) σ9 z A := fun q => (hσ q).1
  have Gm : zm 34 = 1 → mg_R (zm 32).toNat Am σ9 := fun q => (hσ (hR14.trans q)).2
  have ec : zm 34 = 1 → ∀ t, t < 2 → (ce_G K r h z A Am t ↔ me_G zm Am t) := fun q t ht => ce_me ht (Gx (hR14.trans q)) (Gm q)
  refine lv_aload_n hx hb dL_law_564 rfl (lv_at hl 2 rfl) ?_
  obtain ⟨q8, hq8⟩ := cw_at (C := C) (z := z) (r := r) (A := A) hO.1 hO.2
  have hPc := two_P1 hP
  have hDc := two_D1 hD
  have hFc := two_F hDc hS hA
  refine va_calli (va_runV (As := []) (rest := []) ⟨hx, hb, hml, hown, hts⟩ (k_c11_check l D _ C L K z r A h (fun _ z' A' => ci_I L K r w ρ z' A' h ∧ ci_E K r ρ h z A z' A') (we_c11_check I (fun _ z' A' I' _ d' => ⟨I', d'⟩))) (cwV 0 hts gL_law_X11_check rfl rfl rfl (by decide +kernel) ⟨Nat.le_of_ble_eq_true rfl, Nat.le_of_ble_eq_true rfl⟩) ⟨hm_blind, va_recv hKx hPc (ci := 11) (q0 := q8) rfl hq8, hm_pre hPc hKx hDc hE⟩ rfl rfl hl.1 rfl (lv_room (Nat.le_of_ble_eq_true rfl)) dL_law_565 ⟨(by show 2341 + n + 0 ≤ 601024; omega), (by show 683873 + 6 * n + 0 ≤ 7293034; omega)⟩) hS (fun q _ h => hFc q h) hFc (fun rv_1 u t H1 locs ht hvm hw hB hz1 hk1 hS => ?_)
  obtain ⟨a_rv_1, z', _, A'⟩ := u
  obtain ⟨hP1, hK1, hD1⟩ := hB
  rw [ht] at hP1
  obtain ⟨hP, hD⟩ := two_J1 hP hD hk1 hFc hP1 hD1
  generalize H1 = H at hP hS ⊢
  have hP : va_P D vwCl (cw_w C L K z' r A' ++ mw_w om R Cm zm Am) H := hP
  have hD : va_D Ad (cw_w C L K z' r A' ++ mw_w om R Cm zm Am) := hD
  obtain ⟨hrv, hw⟩ := hw
  subst hrv
  obtain ⟨I', hlx⟩ := hw
  refine W.eq (g2 := F0 m 568 ls [.int (hz_i a_rv_1)]) rfl ?_
  refine lv_pop hx hb dL_law_568 rfl ?_
  refine lv_aload_n hx hb dL_law_569 rfl (lv_at hl 1 rfl) ?_
  have hPc := two_P2 hP
  have hDc := two_D2 hD
  have hFc := two_F hDc hS hA
  refine va_calli (va_runV (As := []) (rest := []) ⟨hx, hb, hml, hown, hts⟩ (k_check l D _ om R Cm zm Am (fun _ z' => mi_I z' Am ∧ (∀ q, q ≠ 3 → q ≠ 57 → z' q = zm q)) (wq_check hI  (fun r9 t9 I' => ⟨I', fun q hq _ => lp_U_other hq⟩))) (cwV 0 hts gL_law_X12_check rfl rfl rfl (by decide +kernel) ⟨Nat.le_of_ble_eq_true rfl, Nat.le_of_ble_eq_true rfl⟩) ⟨hm_blind, va_recv hKm hPc (ci := 12) (q0 := 0) rfl rfl, hm_pre hPc hKm hDc hE⟩ rfl rfl hl.1 rfl (lv_room (Nat.le_of_ble_eq_true rfl)) dL_law_570 ⟨(by show 2341 + n + 0 ≤ 601024; omega), (by show 683873 + 6 * n + 0 ≤ 7293034; omega)⟩) hS (fun q _ h => hFc q h) hFc (fun rv_2 u t H1 locs ht hvm hw hB hz1 hk1 hS => ?_)
  obtain ⟨a_rv_2, zm', _⟩ := u
  obtain ⟨hP1, hK1, hD1⟩ := hB
  rw [ht] at hP1
  obtain ⟨hP, hD⟩ := two_J2 hP hD hk1 hFc hP1 hD1
  generalize H1 = H at hP hS ⊢
  have hP : va_P D vwCl (cw_w C L K z' r A' ++ mw_w om R Cm zm' Am) H := hP
  have hD : va_D Ad (cw_w C L K z' r A' ++ mw_w om R Cm zm' Am) := hD
  obtain ⟨hrv, hw⟩ := hw
  subst hrv
  obtain ⟨hI', hzm⟩ := hw
  have hR' := lw_V_keep I hR hlx hzm (me_refl _)
  refine W.eq (g2 := F0 m 573 ls [.int (hz_i a_rv_2)]) rfl ?_
  refine lv_pop hx hb dL_law_573 rfl ?_
  refine lv_goto (tgt := 577) hx hb dL_law_574 (by decide) ?_
  refine W.widen (k := 2341 + (n + 1)) (n := 683873 + 6 * (n + 1)) (by omega) (by omega) ?_
  exact nxt z' r A' zm' Am H locs ls (⟨I', HC.2⟩) hI' (hR') hP hD hS (lv_sub hl [0, 1, 2, 3] rfl)
