set_option maxHeartbeats 8000000 in
set_option maxRecDepth 100000 in
theorem law_loop {p : Program} {e : Env} {s : State} {m : MethodId} {below : List Frame} {meth : Method} {c : Code} (l : Launch) (hlt : l.stackTraces = false) {b Ln : Nat} {xs : Nat → Int32} (hL : Ln ≤ 3072) (C0 : lw_At p s m meth c b Ln xs) {D : va_G} {C Cm : Nat → ClassId} {Ad : Nat → Prop} (hAd : Ad = fun q => s.heap.size ≤ q) (hE : hm_E s) (hXX : hm_X s) (hZU : vx_Zq Bundle.tN "UNASSIGNED_STACK" Bundle.steD Ad s s.heap) (hZN : vx_Zq Bundle.tN "SUPPRESSED_SENTINEL" Bundle.listD Ad s s.heap) (hKx : va_K D vwCl (cw_t C) s) (hKm : va_K D vwCl (mw_t Cm) s) {L : List Nat} {K : Nat → cw_K} {w : Nat → Nat × Nat} {ρ : Nat → Nat} {h om : Nat} {R : Nat → Nat} : ∀ (d n : Nat) (i : Int) (z : Nat → Nat → Int) (r : Nat → Nat → Nat) (A : Nat → Nat → Int) (zm : Nat → Int) (Am : Nat → Nat → Int) (H : Heap) (locs : List Loc) (ls : Array Slot), Ln ≤ 6 * n + d → i = 6 * (n : Int) → 6 * n ≤ Ln → ci_C L K r w ρ z A h → mi_I zm Am → lw_V K r h z A zm Am → va_P D vwCl (cw_w C L K z r A ++ mw_w om R Cm zm Am) H → va_D Ad (cw_w C L K z r A ++ mw_w om R Cm zm Am) → va_S Ad s.heap H locs → lv_has ls 5 [(3, .int (hz_i i)), (2, .ref om), (1, .ref h), (0, .ref b)] → W p l e room_1 s m #[Value.ref b] below meth c H locs (2341 + n) (683873 + 6 * n) (lw_Z below #[Value.ref b] s) (F0 m 18 ls []) := by
  obtain ⟨hx, hb, hr, hml, hown, hts0, hX, hbl, hlocks, hgv⟩ := id C0
  have hown : s.vm.findClass RL = some m.cls := hown
  have hts : ∀ w ∈ wsL_law, w.before #[Value.ref b] s = true := fun w h => hts0 w (wsL_law_in w h)
  have hA : ∀ q : Nat, s.heap.size ≤ q → Ad q := fun q h => by rw [hAd]; exact h
  have hbA : ¬ Ad b := by rw [hAd]; exact Nat.not_le.mpr hbl
  intro d
  induction d with
  | zero =>
    intro n i z r A zm Am H locs ls hd hi hn HC hI hR hP hD hS hl
    refine lv_iload_n hx hb dL_law_18 rfl (lv_at hl 0 rfl) ?_
    refine lv_aload_n hx hb dL_law_19 rfl (lv_at hl 3 rfl) ?_
    refine va_slen hx hb hX hbl hbA hS dL_law_20 ?_
    refine W.eq (g2 := F0 m 21 ls [.int (hz_i (Ln : Int)), .int (hz_i i)]) rfl ?_
    refine lv_bipush (v := hz_i 6) hx hb dL_law_21 (by decide +kernel) ?_
    refine hz_isub hx hb dL_law_23 ?_
    refine hz_icmp_gt (tgt := 583) hx hb dL_law_24 (by decide) ⟨by omega, by omega⟩ ⟨by omega, by omega⟩ (fun cg => ?_) (fun cg => ?_)
    · refine lv_iconst (v := 1) hx hb dL_law_583 (by decide) ?_
      refine va_forget (fun q hq => by have h9 := hS.2.2 q hq; rw [hAd] at h9; exact h9) ?_
      refine W.widen (k := 601024) (n := 7293034) (by omega) (by omega) ?_
      exact lw_ret hx hb hr hlocks dL_law_584
    · omega
  | succ d ih =>
    intro n i z r A zm Am H locs ls hd hi hn HC hI hR hP hD hS hl
    refine lv_iload_n hx hb dL_law_18 rfl (lv_at hl 0 rfl) ?_
    refine lv_aload_n hx hb dL_law_19 rfl (lv_at hl 3 rfl) ?_
    refine va_slen hx hb hX hbl hbA hS dL_law_20 ?_
    refine W.eq (g2 := F0 m 21 ls [.int (hz_i (Ln : Int)), .int (hz_i i)]) rfl ?_
    refine lv_bipush (v := hz_i 6) hx hb dL_law_21 (by decide +kernel) ?_
    refine hz_isub hx hb dL_law_23 ?_
    refine hz_icmp_gt (tgt := 583) hx hb dL_law_24 (by decide) ⟨by omega, by omega⟩ ⟨by omega, by omega⟩ (fun cg => ?_) (fun cg => ?_)
    · refine lv_iconst (v := 1) hx hb dL_law_583 (by decide) ?_
      refine va_forget (fun q hq => by have h9 := hS.2.2 q hq; rw [hAd] at h9; exact h9) ?_
      refine W.widen (k := 601024) (n := 7293034) (by omega) (by omega) ?_
      exact lw_ret hx hb hr hlocks dL_law_584
    · have hn6 : 6 * n + 6 ≤ Ln := by omega
      have nxt : ∀ (z : Nat → Nat → Int) (r : Nat → Nat → Nat) (A : Nat → Nat → Int) (zm : Nat → Int) (Am : Nat → Nat → Int) (H : Heap) (locs : List Loc) (ls : Array Slot), ci_C L K r w ρ z A h → mi_I zm Am → lw_V K r h z A zm Am → va_P D vwCl (cw_w C L K z r A ++ mw_w om R Cm zm Am) H → va_D Ad (cw_w C L K z r A ++ mw_w om R Cm zm Am) → va_S Ad s.heap H locs → lv_has ls 5 [(3, .int (hz_i i)), (2, .ref om), (1, .ref h), (0, .ref b)] → W p l e room_1 s m #[Value.ref b] below meth c H locs (2341 + (n + 1)) (683873 + 6 * (n + 1)) (lw_Z below #[Value.ref b] s) (F0 m 577 ls []) := by
        intro z r A zm Am H locs ls HC hI hR hP hD hS hl
        obtain ⟨j, hj⟩ : ∃ j : Int, j = i + 6 := ⟨_, rfl⟩
        refine lv_iinc (v := hz_i j) (lv' := [(3, .int (hz_i j)), (2, .ref om), (1, .ref h), (0, .ref b)]) hx hb dL_law_577 hl (k := 0) rfl (by rw [hj]; exact hz_i_add _ _) (by decide) rfl (fun ls hl => ?_)
        refine lv_goto (tgt := 18) hx hb dL_law_580 (by decide) ?_
        exact ih (n + 1) j z r A zm Am H locs ls (by omega) (by omega) (by omega) HC hI hR hP hD hS hl
      refine lv_aload_n hx hb dL_law_27 rfl (lv_at hl 3 rfl) ?_
      refine lv_iload_n hx hb dL_law_28 rfl (lv_at hl 0 rfl) ?_
      refine va_sld hx hb hX hbl hbA hS (hz_in (i := i) ⟨by omega, by omega⟩ (by omega)) dL_law_29 ?_
      refine lv_topi (fun x0 ex0 => ?_)
      obtain ⟨y0, ry0, qy0⟩ := hz_i_of x0
      subst qy0
      refine lv_bipush (v := hz_i 31) hx hb dL_law_30 (by decide +kernel) ?_
      refine cw_iand (P := 32) hx hb 5 dL_law_32 (by decide) (by decide +kernel) (by decide +kernel) (fun x hx0 => ?_)
      have rx : hz_rI x := by omega
      by_cases h9c : x = 0
      · refine lv_tableIn (tgt := 116) (off := 83) hx hb dL_law_33 (cw_tb1 rx h9c (by decide)) (cw_tb2 rx h9c (by decide)) (by rw [hz_i_toInt rx, h9c]; decide +kernel) (by decide) ?_
        exact law_0 l hlt hL C0 hAd hE hXX hZU hZN hKx hKm hi hn6 nxt HC hI hR hP hD hS hl
      have n0 := h9c
      by_cases h9c : x = 1
      · refine lv_tableIn (tgt := 179) (off := 146) hx hb dL_law_33 (cw_tb1 rx h9c (by decide)) (cw_tb2 rx h9c (by decide)) (by rw [hz_i_toInt rx, h9c]; decide +kernel) (by decide) ?_
        exact law_1 l hlt hL C0 hAd hE hXX hZU hZN hKx hKm hi hn6 nxt HC hI hR hP hD hS hl
      have n1 := h9c
      by_cases h9c : x = 2
      · refine lv_tableIn (tgt := 192) (off := 159) hx hb dL_law_33 (cw_tb1 rx h9c (by decide)) (cw_tb2 rx h9c (by decide)) (by rw [hz_i_toInt rx, h9c]; decide +kernel) (by decide) ?_
        exact law_2 l hlt hL C0 hAd hE hXX hZU hZN hKx hKm hi hn6 nxt HC hI hR hP hD hS hl
      have n2 := h9c
      by_cases h9c : x = 3
      · refine lv_tableIn (tgt := 205) (off := 172) hx hb dL_law_33 (cw_tb1 rx h9c (by decide)) (cw_tb2 rx h9c (by decide)) (by rw [hz_i_toInt rx, h9c]; decide +kernel) (by decide) ?_
        exact law_3 l hlt hL C0 hAd hE hXX hZU hZN hKx hKm hi hn6 nxt HC hI hR hP hD hS hl
      have n3 := h9c
      by_cases h9c : x = 4
      · refine lv_tableIn (tgt := 228) (off := 195) hx hb dL_law_33 (cw_tb1 rx h9c (by decide)) (cw_tb2 rx h9c (by decide)) (by rw [hz_i_toInt rx, h9c]; decide +kernel) (by decide) ?_
        exact law_4 l hlt hL C0 hAd hE hXX hZU hZN hKx hKm hi hn6 nxt HC hI hR hP hD hS hl
      have n4 := h9c
      by_cases h9c : x = 5
      · refine lv_tableIn (tgt := 251) (off := 218) hx hb dL_law_33 (cw_tb1 rx h9c (by decide)) (cw_tb2 rx h9c (by decide)) (by rw [hz_i_toInt rx, h9c]; decide +kernel) (by decide) ?_
        exact law_5 l hlt hL C0 hAd hE hXX hZU hZN hKx hKm hi hn6 nxt HC hI hR hP hD hS hl
      have n5 := h9c
      by_cases h9c : x = 6
      · refine lv_tableIn (tgt := 294) (off := 261) hx hb dL_law_33 (cw_tb1 rx h9c (by decide)) (cw_tb2 rx h9c (by decide)) (by rw [hz_i_toInt rx, h9c]; decide +kernel) (by decide) ?_
        exact law_6 l hlt hL C0 hAd hE hXX hZU hZN hKx hKm hi hn6 nxt HC hI hR hP hD hS hl
      have n6 := h9c
      by_cases h9c : x = 7
      · refine lv_tableIn (tgt := 317) (off := 284) hx hb dL_law_33 (cw_tb1 rx h9c (by decide)) (cw_tb2 rx h9c (by decide)) (by rw [hz_i_toInt rx, h9c]; decide +kernel) (by decide) ?_
        exact law_7 l hlt hL C0 hAd hE hXX hZU hZN hKx hKm hi hn6 nxt HC hI hR hP hD hS hl
      have n7 := h9c
      by_cases h9c : x = 8
      · refine lv_tableIn (tgt := 380) (off := 347) hx hb dL_law_33 (cw_tb1 rx h9c (by decide)) (cw_tb2 rx h9c (by decide)) (by rw [hz_i_toInt rx, h9c]; decide +kernel) (by decide) ?_
        exact law_8 l hlt hL C0 hAd hE hXX hZU hZN hKx hKm hi hn6 nxt HC hI hR hP hD hS hl
      have n8 := h9c
      by_cases h9c : x = 9
      · refine lv_tableIn (tgt := 403) (off := 370) hx hb dL_law_33 (cw_tb1 rx h9c (by decide)) (cw_tb2 rx h9c (by decide)) (by rw [hz_i_toInt rx, h9c]; decide +kernel) (by decide) ?_
        exact law_9 l hlt hL C0 hAd hE hXX hZU hZN hKx hKm hi hn6 nxt HC hI hR hP hD hS hl
      have n9 := h9c
      by_cases h9c : x = 10
      · refine lv_tableIn (tgt := 416) (off := 383) hx hb dL_law_33 (cw_tb1 rx h9c (by decide)) (cw_tb2 rx h9c (by decide)) (by rw [hz_i_toInt rx, h9c]; decide +kernel) (by decide) ?_
        exact law_10 l hlt hL C0 hAd hE hXX hZU hZN hKx hKm hi hn6 nxt HC hI hR hP hD hS hl
      have n10 := h9c
      by_cases h9c : x = 11
      · refine lv_tableIn (tgt := 429) (off := 396) hx hb dL_law_33 (cw_tb1 rx h9c (by decide)) (cw_tb2 rx h9c (by decide)) (by rw [hz_i_toInt rx, h9c]; decide +kernel) (by decide) ?_
        exact law_11 l hlt hL C0 hAd hE hXX hZU hZN hKx hKm hi hn6 nxt HC hI hR hP hD hS hl
      have n11 := h9c
      by_cases h9c : x = 12
      · refine lv_tableIn (tgt := 452) (off := 419) hx hb dL_law_33 (cw_tb1 rx h9c (by decide)) (cw_tb2 rx h9c (by decide)) (by rw [hz_i_toInt rx, h9c]; decide +kernel) (by decide) ?_
        exact law_12 l hlt hL C0 hAd hE hXX hZU hZN hKx hKm hi hn6 nxt HC hI hR hP hD hS hl
      have n12 := h9c
      by_cases h9c : x = 13
      · refine lv_tableIn (tgt := 485) (off := 452) hx hb dL_law_33 (cw_tb1 rx h9c (by decide)) (cw_tb2 rx h9c (by decide)) (by rw [hz_i_toInt rx, h9c]; decide +kernel) (by decide) ?_
        exact law_13 l hlt hL C0 hAd hE hXX hZU hZN hKx hKm hi hn6 nxt HC hI hR hP hD hS hl
      have n13 := h9c
      by_cases h9c : x = 14
      · refine lv_tableIn (tgt := 508) (off := 475) hx hb dL_law_33 (cw_tb1 rx h9c (by decide)) (cw_tb2 rx h9c (by decide)) (by rw [hz_i_toInt rx, h9c]; decide +kernel) (by decide) ?_
        exact law_14 l hlt hL C0 hAd hE hXX hZU hZN hKx hKm hi hn6 nxt HC hI hR hP hD hS hl
      have n14 := h9c
      by_cases h9c : x = 15
      · refine lv_tableIn (tgt := 531) (off := 498) hx hb dL_law_33 (cw_tb1 rx h9c (by decide)) (cw_tb2 rx h9c (by decide)) (by rw [hz_i_toInt rx, h9c]; decide +kernel) (by decide) ?_
        exact law_15 l hlt hL C0 hAd hE hXX hZU hZN hKx hKm hi hn6 nxt HC hI hR hP hD hS hl
      have n15 := h9c
      by_cases h9c : x = 16
      · refine lv_tableIn (tgt := 564) (off := 531) hx hb dL_law_33 (cw_tb1 rx h9c (by decide)) (cw_tb2 rx h9c (by decide)) (by rw [hz_i_toInt rx, h9c]; decide +kernel) (by decide) ?_
        exact law_16 l hlt hL C0 hAd hE hXX hZU hZN hKx hKm hi hn6 nxt HC hI hR hP hD hS hl
      have n16 := h9c
      refine lv_tableOut (tgt := 577) hx hb dL_law_33 (Or.inr (by rw [hz_i_toInt rx]; omega)) (by decide) ?_
      refine W.widen (k := 2341 + (n + 1)) (n := 683873 + 6 * (n + 1)) (by omega) (by omega) ?_
      exact nxt z r A zm Am H locs ls HC hI hR hP hD hS hl
