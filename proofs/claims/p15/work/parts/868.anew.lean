/-- a way at the start: everyone makes the first move -/
noncomputable def cy_N (L : List Nat) (K : Nat → cw_K) (r : Nat → Nat → Nat) (A : Nat → Nat → Int) (y : Nat) : Prop := cy_W L K r A y ∧ ∀ i : Nat, i < 40 → A (r y 0) i = (if i % 4 = 0 then 1 else 0) ∧ A (r y 1) i = 1
section CY
variable {L : List Nat} {K : Nat → cw_K} {r : Nat → Nat → Nat} {z A : Nat → Nat → Int} {w : Nat → Nat × Nat} {ρ : Nat → Nat} {S : Nat → Prop}
theorem cy_N_keep (h9 : cg_9 L K r w ρ) {y : Nat} {z' A' : Nat → Nat → Int} (h : cy_N L K r A y) (hF : cF ρ S z A z' A') (hs : ¬ S (ρ y)) : cy_N L K r A' y := by
  obtain ⟨g0, g1, g2⟩ := h9 y h.1.1
  refine ⟨cy_W_keep h9 h.1 hF hs, ?_⟩
  rw [(hF (r y 0) (by rw [g0.2.2.2]; exact hs)).2, (hF (r y 1) (by rw [g1.2.2.2]; exact hs)).2]
  exact h.2
theorem we_c9_restart {y : Nat} (h : cJ L K r z A) (hd : ∀ a, cw_O L K 0 a → w (r a 0) = (a, 0)) (h9 : cg_9 L K r w ρ) (hO : cw_O L K 9 y) (hy : S (ρ y)) {Q : (Nat → Nat → Int) → Prop} (hQ : ∀ A' : Nat → Nat → Int, cJ L K r z A' → cF ρ S z A z A' → cy_N L K r A' y → Q A') : wp_c9_restart L K z r A y Q := by
  obtain ⟨⟨a1, a2, a3, a4⟩, ⟨b1, b2, b3, b4⟩, -⟩ := h9 y hO
  have d0 := cg_dig hd a3 hO (by decide)
  have d1 := cg_dig hd b3 hO (by decide)
  have ne : r y 0 ≠ r y 1 := cg_ne a3 b3 (by simp)
  intro P hP
  have key : ∀ (k n : Nat) (A1 : Nat → Nat → Int) (x : Int), n + k = 40 → x = (n : Int) → cJ L K r z A1 → cF ρ S z A z A1 → (∀ i, i < n → 0 ≤ A1 (r y 0) i ∧ A1 (r y 0) i ≤ A1 (r y 1) i ∧ A1 (r y 1) i ≤ 9999) → (∀ i, i < n → A1 (r y 0) i = (if i % 4 = 0 then 1 else 0) ∧ A1 (r y 1) i = 1) → P A1 x := by
    intro k
    induction k with
    | zero =>
      intro n A1 x hk ex j1 F1 hc hv
      exact hP A1 x ⟨by omega, fun _ => hQ A1 j1 F1 ⟨⟨hO, fun i hi => hc i (by omega)⟩, fun i hi => hv i (by omega)⟩, fun c => by omega⟩
    | succ k ih =>
      intro n A1 x hk ex j1 F1 hc hv
      subst ex
      have main : ∀ t : Int, (t = 0 ∨ t = 1) → t = (if n % 4 = 0 then 1 else 0) → wp_c9_restart_24 L K z r A1 y n t n (r y 0) P Q := by
        intro t ht ht9
        refine ⟨a1, by omega, fun A2 e2 => ⟨hO, b1, by omega, fun A3 e3 x1 ex1 => ?_⟩⟩
        have j2 : cJ L K r z A2 := by rw [e2]; exact cJ_st j1 a1 d0 ⟨fun _ => by omega, by omega, by omega, by omega⟩
        have j3 : cJ L K r z A3 := by rw [e3]; exact cJ_st j2 b1 d1 ⟨fun _ => by omega, by omega, by omega, by omega⟩
        refine ih (n + 1) A3 x1 (by omega) (by omega) j3 (cF_trans F1 (by rw [e3, e2]; exact cF_trans (cF_st (by rw [a4]; exact hy)) (cF_st (by rw [b4]; exact hy)))) (fun i hi => ?_) (fun i hi => ?_)
        · have e0 : A3 (r y 0) = A2 (r y 0) := by rw [e3, hz_s_a ne]
          have e1 : A2 (r y 1) = A1 (r y 1) := by rw [e2, hz_s_a (Ne.symm ne)]
          by_cases hin : i = n
          · subst hin
            have s0 : A2 (r y 0) i = t := by rw [e2]; have := hz_s_same (A := A1) (r y 0) (i : Int) t; rwa [show ((i : Int)).toNat = i by omega] at this
            have s1 : A3 (r y 1) i = 1 := by rw [e3]; have := hz_s_same (A := A2) (r y 1) (i : Int) 1; rwa [show ((i : Int)).toNat = i by omega] at this
            rw [e0, s0, s1]
            omega
          · rw [e0, e3, hz_s_i (by omega), e2, hz_s_i (by omega), hz_s_i (by omega)]
            exact hc i (by omega)
        · have e0 : A3 (r y 0) = A2 (r y 0) := by rw [e3, hz_s_a ne]
          have e1 : A2 (r y 1) = A1 (r y 1) := by rw [e2, hz_s_a (Ne.symm ne)]
          by_cases hin : i = n
          · subst hin
            have s0 : A2 (r y 0) i = t := by rw [e2]; have := hz_s_same (A := A1) (r y 0) (i : Int) t; rwa [show ((i : Int)).toNat = i by omega] at this
            have s1 : A3 (r y 1) i = 1 := by rw [e3]; have := hz_s_same (A := A2) (r y 1) (i : Int) 1; rwa [show ((i : Int)).toNat = i by omega] at this
            rw [e0, s0, s1]
            exact ⟨ht9, rfl⟩
          · rw [e0, e3, hz_s_i (by omega), e2, hz_s_i (by omega), hz_s_i (by omega)]
            exact hv i (by omega)
      have em : ((n : Int)).tmod 4 = (n : Int) % 4 := Int.tmod_eq_emod_of_nonneg (by omega)
      refine hP A1 n ⟨by omega, fun c => by omega, fun _ => ⟨hO, by omega, by rw [em]; omega, fun c9 => main 0 (by omega) (by rw [em] at c9; rw [if_neg (by omega)]), fun c9 => main 1 (by omega) (by rw [em] at c9; rw [if_pos (by omega)])⟩⟩
  exact key 40 0 A 0 (by omega) rfl h (cF_refl _ _ _ _) (fun i hi => by omega) (fun i hi => by omega)
end CY
section CF
variable {L : List Nat} {K : Nat → cw_K} {r r' : Nat → Nat → Nat} {z A : Nat → Nat → Int} {w : Nat → Nat × Nat} {ρ : Nat → Nat} {S : Nat → Prop} {h : Nat}
theorem we_c11_startAnew (J : cJ L K r z A) (hdg : ∀ a, cw_O L K 0 a → w (r a 0) = (a, 0)) (h9 : cg_9 L K r w ρ) (hO : cw_O L K 11 h) (l : ci_R L K ρ 5 4 4 (r h 9) 12) (f : ci_R L K ρ 9 9 2 (r h 4) 3) {Q : (Nat → Nat → Int) → (Nat → Nat → Int) → Prop} (hQ : ∀ z' A' : Nat → Nat → Int, cJ L K r z' A' → cF ρ (fun q => q = 3 ∨ q = 4 ∨ (12 ≤ q ∧ q ≤ 15)) z A z' A' → (∀ i, i < 4 → z' (cw_g K (r h 9) i) 2 = 0) → (∀ i, i < 2 → cy_N L K r A' (cw_g K (r h 4) i)) → Q z' A') : wp_c11_startAnew L K z r A h Q := by
  obtain ⟨l1, l2, l3⟩ := l
  obtain ⟨f1, f2, f3⟩ := f
  intro P2 hP2
  have at25 : ∀ (z1 : Nat → Nat → Int), cJ L K r z1 A → cF ρ (fun q => q = 3 ∨ q = 4 ∨ (12 ≤ q ∧ q ≤ 15)) z A z1 A → (∀ i, i < 4 → z1 (cw_g K (r h 9) i) 2 = 0) → wp_c11_startAnew_25 L K z1 r A h 0 Q := by
    intro z1 J1 F1 hk1
    intro P25 hP25
    have key : ∀ (k n : Nat) (A1 : Nat → Nat → Int) (x : Int), n + k = 2 → x = (n : Int) → cJ L K r z1 A1 → cF ρ (fun q => q = 3 ∨ q = 4 ∨ (12 ≤ q ∧ q ≤ 15)) z A z1 A1 → (∀ i, i < n → cy_N L K r A1 (cw_g K (r h 4) i)) → P25 A1 x := by
      intro k
      induction k with
      | zero =>
        intro n A1 x hk ex J2 F2 hw
        exact hP25 A1 x ⟨by omega, fun _ => hQ z1 A1 J2 F2 hk1 (fun i hi => hw i (by omega)), fun q => by omega⟩
      | succ k ih =>
        intro n A1 x hk ex J2 F2 hw
        have xn : x.toNat = n := by omega
        refine hP25 A1 x ⟨by omega, fun q => by omega, fun _ => ⟨hO, f1, by omega, ?_⟩⟩
        rw [xn]
        obtain ⟨g1, g2⟩ := f3 n (by omega)
        refine ⟨g1, we_c9_restart (S := fun q => q = 3 + n) J2 hdg h9 g1 g2 (fun A2 J3 F3 W3 x' ex' => ih (n + 1) A2 x' (by omega) (by omega) J3 (cF_trans F2 (cF_mono F3 (fun q hq => by omega))) (fun i hi => ?_))⟩
        by_cases e : i = n
        · rw [e]; exact W3
        · exact cy_N_keep h9 (hw i (by omega)) F3 (by rw [(f3 i (by omega)).2]; omega)
    exact key 2 0 A 0 (by omega) rfl J1 F1 (fun i hi => by omega)
  have key : ∀ (k n : Nat) (z1 : Nat → Nat → Int) (x : Int), n + k = 4 → x = (n : Int) → cJ L K r z1 A → cF ρ (fun q => q = 3 ∨ q = 4 ∨ (12 ≤ q ∧ q ≤ 15)) z A z1 A → (∀ i, i < n → z1 (cw_g K (r h 9) i) 2 = 0) → P2 z1 x := by
    intro k
    induction k with
    | zero =>
      intro n z1 x hk ex J1 F1 hz
      exact hP2 z1 x ⟨by omega, fun _ => at25 z1 J1 F1 (fun i hi => hz i (by omega)), fun q => by omega⟩
    | succ k ih =>
      intro n z1 x hk ex J1 F1 hz
      have xn : x.toNat = n := by omega
      refine hP2 z1 x ⟨by omega, fun q => by omega, fun _ => ⟨hO, l1, by omega, ?_⟩⟩
      rw [xn]
      obtain ⟨g1, g2⟩ := l3 n (by omega)
      refine ⟨g1, fun z2 e2 x' ex' => ih (n + 1) z2 x' (by omega) (by omega) (cJ_z J1 (fun b hb => by rw [e2, cw_s_a (cw_O_ne hb g1 (by decide))])) (cF_trans F1 (by rw [e2]; exact cF_s (by rw [g2]; exact Or.inr (Or.inr (by omega))))) (fun i hi => ?_)⟩
      by_cases e : cw_g K (r h 9) i = cw_g K (r h 9) n
      · rw [e, e2, cw_s_same]
      · rw [e2, cw_s_a e]
        refine hz i ?_
        apply Classical.byContradiction
        intro hc
        exact e (by rw [show i = n by omega])
  exact key 4 0 z 0 (by omega) rfl J (cF_refl _ _ _ _) (fun i hi => by omega)
theorem we_c11_read {T9 : sp_T} {ps : Nat → Nat} {nt : Nat} (TK : tk_T (A (r (r (r h 0) 2) 0)) (z (r (r h 0) 2) 1).toNat T9 ps nt) (C : ci_C L K r w ρ z A h) {Q : Int → (Nat → Nat → Int) → (Nat → Nat → Nat) → (Nat → Nat → Int) → Prop} (hQ : ∀ (v : Int) (z' : Nat → Nat → Int) (r' : Nat → Nat → Nat) (A' : Nat → Nat → Int), ci_C L K r' w ρ z' A' h → z' (r' (r' h 0) 2) 1 = 0 → sp_R T9 (z (r (r h 0) 2) 1) v (z' h 15) → (v = 0 → z' h 14 = 1 ∧ (∃ σ, sp_G T9 σ ∧ sg_R K r' (r' h 13) σ z' A') ∧ (∀ i, i < 2 → cy_N L K r' A' (cw_g K (r' h 4) i)) ∧ ∀ i, i < 4 → z' (cw_g K (r' h 9) i) 2 = 0) → (¬ v = 0 → z' h 14 = z h 14 ∧ (∀ σ, sg_R K r (r h 13) σ z A → sg_R K r' (r' h 13) σ z' A') ∧ ∀ i, i < 2 → A' (r' (cw_g K (r' h 4) i) 0) = A (r (cw_g K (r h 4) i) 0) ∧ A' (r' (cw_g K (r' h 4) i) 1) = A (r (cw_g K (r h 4) i) 1) ∧ z' (cw_g K (r' h 9) (2 + i)) 2 = z (cw_g K (r h 9) (2 + i)) 2 ∧ A' (r' (cw_g K (r' h 7) i) 0) = A (r (cw_g K (r h 7) i) 0) ∧ z' (cw_g K (r' (r' h 13) 1) i) 0 = z (cw_g K (r (r h 13) 1) i) 0) → Q v z' r' A') : wp_c11_read L K z r A h Q := by
  have X := ci_X C
  obtain ⟨I, S3⟩ := id C
  obtain ⟨S1, S2, J, T, g1, g2, W, Tt, M, Rr, q2, q15⟩ := id I
  obtain ⟨hdg, h1, h2, h3, h4, h6, h7, h8, h9⟩ := id S1
  obtain ⟨⟨a1, a2⟩, ⟨b1, b2⟩, ⟨c1, c2, c3⟩, ⟨d1, d2, d3, d4⟩, ⟨e1, e2⟩, f, g, i, j, ⟨k1, k2⟩, l, ⟨m1, m2⟩, n, o, ⟨p1, p2⟩, ⟨q1, qb, q3⟩⟩ := id S2
  have neW : h ≠ r (r h 0) 2 := cw_O_ne a1 c1 (by decide)
  have neR : r h 0 ≠ h := cw_O_ne b1 a1 (by decide)
  have neG : r h 13 ≠ h := cw_O_ne p1 a1 (by decide)
  have cqr : ∀ q, cq_r r ρ (r h 0) q → q = 1 ∨ (17 ≤ q ∧ q ≠ ρ (r h 13)) := by
    intro q hq
    rcases hq with hq | hq
    · exact Or.inl (by rw [hq, b2])
    · exact Or.inr ⟨by omega, by omega⟩
  -- what both ends have in common
  have com : ∀ (z3 A4 z6 z8 : Nat → Nat → Int), cF ρ (cq_r r ρ (r h 0)) z A z3 A4 → cJ L K r z3 A4 → cl_T L K r z3 A4 (r (r h 0) 2) → hz_rI (z3 (r h 0) 0) → z6 = cw_s z3 h 15 (z3 (r h 0) 0) → z8 = cw_s z6 (r (r h 0) 2) 1 0 → ci_C L K r w ρ z8 A4 h ∧ z8 (r (r h 0) 2) 1 = 0 ∧ cF ρ (fun q => q = 0 ∨ q = 1) z3 A4 z8 A4 := by
    intro z3 A4 z6 z8 F3 J3 T3 r0 e6 e8
    have F6 : cF ρ (fun q => q = 0 ∨ q = 1) z3 A4 z6 A4 := by rw [e6]; exact cF_s (by rw [a2]; exact Or.inl rfl)
    have F68 : cF ρ (fun q => q = 0 ∨ q = 1) z6 A4 z8 A4 := by rw [e8]; exact cF_s (by rw [c2]; exact Or.inr rfl)
    have F8 : cF ρ (fun q => q = 0 ∨ q = 1) z3 A4 z8 A4 := cF_trans F6 F68
    have zh : z3 h = z h := (F3 h (fun q => by have := cqr _ q; omega)).1
    have zh8 : ∀ y, y ≠ 15 → z8 h y = z h y := fun y hy => by rw [e8, cw_s_a neW, e6, cw_s_k hy, zh]
    have J8 : cJ L K r z8 A4 := cJ_z J3 (fun b hb => by rw [e8, cw_s_a (cw_O_ne hb c1 (by decide)), e6, cw_s_a (cw_O_ne hb a1 (by decide))])
    have T8 : cl_T L K r z8 A4 (r (r h 0) 2) := by
      obtain ⟨t1, t2, t3, t4, t5, t6⟩ := T3
      refine ⟨t1, t2, t3, by rw [e8, cw_s_same]; decide, by rw [e8, cw_s_k (by decide), e6, cw_s_a (Ne.symm neW)]; exact t5, t6⟩
    refine ⟨⟨ci_keep (S := fun q => q = 0 ∨ cq_r r ρ (r h 0) q) I ?_ J8 (fun q => ?_) (fun _ => ⟨zh8 14 (by decide), by rw [zh8 2 (by decide)]; exact q2, by rw [e8, cw_s_a neW, e6, cw_s_same]; exact r0⟩) (fun _ => T8) (fun t ht q => ?_) (fun t ht q => ?_) (fun t ht q => ?_) (fun t ht q => ?_), S3⟩, by rw [e8, cw_s_same], F8⟩
    · exact cF_trans (cF_mono F3 (fun q hq => Or.inr hq)) (cF_mono F8 (fun q hq => by
        rcases hq with hq | hq
        · exact Or.inl hq
        · exact Or.inr (Or.inl (by rw [hq, b2]))))
    · rcases q with q | q
      · omega
      · have := cqr _ q; omega
    · rcases q with q | q
      · omega
      · have := cqr _ q; omega
    · rcases q with q | q
      · omega
      · have := cqr _ q; omega
    · rcases q with q | q
      · omega
      · have := cqr _ q; omega
    · rcases q with q | q
      · omega
      · have := cqr _ q; omega
  refine ⟨a1, b1, wv_c5_understand TK X J T (fun z3 A4 F3 J3 T3 r0 G3 hGG z6 e6 => ⟨c1, fun z8 e8 => ⟨by decide, fun q => absurd rfl q, fun _ => ⟨b1, fun r1 er1 r2 er2 z9 e9 => ?_⟩⟩⟩) (fun z3 A4 e hRR z6 e6 => ⟨c1, fun z8 e8 => ⟨e.2.2.2.2.1, fun _ => ?_, fun q => absurd q e.2.2.2.1⟩⟩)⟩
  · obtain ⟨⟨I8, -⟩, w8, F8⟩ := com z3 A4 z6 z8 F3 J3 T3 (by rw [r0]; decide) e6 e8
    have J8 := I8.2.2.1
    have hc : ∀ t a, cw_O L K t a → ¬ t = 5 → ¬ t = 11 → r2 a = r a := fun t a ha t5 t11 => by rw [er2, cw_s_a (cw_O_ne ha a1 t11), er1, cw_s_a (cw_O_ne ha b1 t5)]
    have rh : ∀ y, y ≠ 13 → r2 h y = r h y := fun y hy => by rw [er2, cw_s_k hy, er1, cw_s_a (Ne.symm neR)]
    have rh13 : r2 h 13 = r (r h 0) 3 := by rw [er2, cw_s_same]
    have rR : ∀ y, y ≠ 3 → r2 (r h 0) y = r (r h 0) y := fun y hy => by rw [er2, cw_s_a neR, er1, cw_s_k hy]
    have rR3 : r2 (r h 0) 3 = r h 13 := by rw [er2, cw_s_a neR, er1, cw_s_same]
    have S1' := ci_S1_r hc S1
    have J9 : cJ L K r2 z9 A4 := cJ_r hc (cJ_z J8 (fun b hb => by rw [e9, cw_s_a (cw_O_ne hb a1 (by decide))]))
    have l' : ci_R L K ρ 5 4 4 (r2 h 9) 12 := by rw [rh 9 (by decide)]; exact l
    have f' : ci_R L K ρ 9 9 2 (r2 h 4) 3 := by rw [rh 4 (by decide)]; exact f
    refine we_c11_startAnew J9 S1'.1 S1'.2.2.2.2.2.2.2.2 a1 l' f' (fun z10 A5 J10 F10 hk hw => ?_)
    have F9 : cF ρ (fun q => q = 0) z8 A4 z9 A4 := by rw [e9]; exact cF_s a2
    have F310 : cF ρ (fun q => q ≤ 16) z3 A4 z10 A5 := cF_trans (cF_trans (cF_mono F8 (fun q hq => by omega)) (cF_mono F9 (fun q hq => by omega))) (cF_mono F10 (fun q hq => by omega))
    have zh10 : z10 h = z9 h := (F10 h (by rw [a2]; omega)).1
    have zh9 : ∀ y, y ≠ 14 → z10 h y = z8 h y := fun y hy => by rw [zh10, e9, cw_s_k hy]
    have zW : z10 (r (r h 0) 2) = z8 (r (r h 0) 2) := by rw [(F10 _ (by rw [c2]; omega)).1, e9, cw_s_a (Ne.symm neW)]
    have aW : A5 (r (r (r h 0) 2) 0) = A4 (r (r (r h 0) 2) 0) := (F10 _ (by rw [c3]; omega)).2
    have eW : r2 (r (r h 0) 2) = r (r (r h 0) 2) := hc 10 _ c1 (by decide) (by decide)
    have T10 : cl_T L K r2 z10 A5 (r2 (r2 h 0) 2) := by
      rw [rh 0 (by decide), rR 2 (by decide)]
      have t := I8.2.2.2.1
      unfold cl_T at t ⊢
      rw [eW, zW, aW]
      exact t
    have G10 : cg_F L K r2 z10 A5 (r2 h 13) := by
      rw [rh13]
      exact cg_F_r hc (cg_F_keep h2 h7 G3 F310 (by show ¬ ρ (r (r h 0) 3) ≤ 16; omega))
    have F810 : cF ρ (fun q => q = 0 ∨ q = 3 ∨ q = 4 ∨ (12 ≤ q ∧ q ≤ 15)) z8 A4 z10 A5 := cF_trans (cF_mono F9 (fun q hq => Or.inl hq)) (cF_mono F10 (fun q hq => Or.inr hq))
    refine hQ 0 z10 r2 A5 ⟨⟨S1', ⟨⟨a1, a2⟩, ?_, ?_, ?_, ?_, f', ?_, ?_, ?_, ?_, l', ?_, ?_, ?_, ?_, ?_⟩, J10, T10, ?_, fun _ => G10, fun i hi => (hw i hi).1, ?_, ?_, ?_, ?_, ?_⟩, ?_⟩ ?_ ?_ (fun _ => ⟨?_, ?_, hw, hk⟩) (fun q => absurd rfl q)
    · rw [rh 0 (by decide)]; exact ⟨b1, b2⟩
    · rw [rh 0 (by decide), rR 2 (by decide), eW]; exact ⟨c1, c2, c3⟩
    · unfold cg_A; rw [rh 1 (by decide)]; exact ⟨d1, d2, d3, d4⟩
    · rw [rh 3 (by decide)]; exact ⟨e1, e2⟩
    · rw [rh 5 (by decide)]; exact g
    · rw [rh 6 (by decide)]; exact i
    · rw [rh 7 (by decide)]; exact j
    · rw [rh 8 (by decide)]; exact ⟨k1, k2⟩
    · rw [rh 10 (by decide)]; exact ⟨m1, m2⟩
    · have n' := n
      unfold cg_B at n' ⊢
      rw [rh 11 (by decide), hc 0 _ n'.1 (by decide) (by decide)]; exact n'
    · have n' := o
      unfold cg_B at n' ⊢
      rw [rh 12 (by decide), hc 0 _ n'.1 (by decide) (by decide)]; exact n'
    · rw [rh13]; exact ⟨q1, qb⟩
    · rw [rh 0 (by decide), rR3, rh13]; exact ⟨p1, p2, fun q => q3 q.symm⟩
    · exact Or.inr (by rw [zh10, e9, cw_s_same])
    · intro t ht x hx
      rw [rh 5 (by decide)]
      have gm := g.2.2 t ht
      rw [hc 3 _ gm.1 (by decide) (by decide)]
      obtain ⟨⟨y1, y2, y3, y4⟩, -⟩ := h3 _ gm.1
      rw [(F810 _ (by rw [(y4 x hx).2.2.2, gm.2]; omega)).1]
      exact I8.2.2.2.2.2.2.2.1 t ht x hx
    · intro t ht x hx
      rw [rh 6 (by decide)]
      have gm := i.2.2 t ht
      rw [hc 3 _ gm.1 (by decide) (by decide)]
      obtain ⟨⟨y1, y2, y3, y4⟩, -⟩ := h3 _ gm.1
      have q := (cF_big h1 F810 (y4 x hx).1 (by rw [(y4 x hx).2.2.2, gm.2]; omega)).1
      have q' := I8.2.2.2.2.2.2.2.2.1 t ht x hx
      unfold cb_u at q q' ⊢
      rw [hc 0 _ (y4 x hx).1 (by decide) (by decide), q]
      exact q'
    · intro t ht
      have := hk t ht
      exact ⟨Or.inl this, fun q => by omega⟩
    · rw [zh9 2 (by decide)]; exact I8.2.2.2.2.2.2.2.2.2.2.1
    · rw [zh9 15 (by decide)]; exact I8.2.2.2.2.2.2.2.2.2.2.2
    · unfold ci_S3 cg_A at S3 ⊢
      rw [rh 0 (by decide), rR 4 (by decide), rR 9 (by decide), rR 10 (by decide), rR 11 (by decide), rR 12 (by decide)]
      exact S3
    · rw [rh 0 (by decide), rR 2 (by decide), zW]
      exact w8
    · obtain ⟨σ, -, hσ⟩ := hGG
      have p15 : z10 h 15 = -1 := by rw [zh9 15 (by decide), e8, cw_s_a neW, e6, cw_s_same]; exact r0
      rw [p15]
      exact sp_G_R hσ _
    · rw [zh10, e9, cw_s_same]
    · obtain ⟨σ, hs, hσ⟩ := hGG
      refine ⟨σ, hσ, ?_⟩
      rw [rh13]
      exact sg_r hc h2 X.2.2.2.1 (sg_keepF h2 h7 X.2.2.2.1 F310 (by show ¬ ρ (r (r h 0) 3) ≤ 16; omega) (sg_of hs))
  · obtain ⟨C8, w8, F8⟩ := com z3 A4 z6 z8 e.1 e.2.1 e.2.2.1 e.2.2.2.2.2 e6 e8
    have p15 : z8 h 15 = z3 (r h 0) 0 := by rw [e8, cw_s_a neW, e6, cw_s_same]
    have zh : z3 h = z h := (e.1 h (fun q => by have := cqr _ q; omega)).1
    refine hQ _ z8 r A4 C8 w8 (by rw [p15]; exact hRR) (fun q => absurd q e.2.2.2.1) (fun _ => ⟨by rw [e8, cw_s_a neW, e6, cw_s_k (by decide), zh], fun σ hs => sg_keepF (S := fun q => (q = 0 ∨ q = 1) ∨ cq_r r ρ (r h 0) q) h2 h7 p1 (cF_trans (cF_mono e.1 (fun q hq => Or.inr hq)) (cF_mono F8 (fun q hq => Or.inl hq))) (fun q => ?_) hs, fun i9 hi9 => ?_⟩)
    · rcases q with q | q
      · omega
      · have := cqr _ q
        omega
    · obtain ⟨u1, u2⟩ := f.2.2 i9 hi9
      obtain ⟨v1, v2, -⟩ := h9 _ u1
      have nc : ¬ cq_r r ρ (r h 0) (3 + i9) := fun q => by have := cqr _ q; omega
      obtain ⟨P1, P2⟩ := j.2.2 i9 hi9
      have pa := (h6 _ P1).1
      have lq := l.2.2 (2 + i9) (by omega)
      have sd := ((h2 _ p1).2.1.2.2 i9 hi9).2.2
      have nc9 : ¬ cq_r r ρ (r h 0) (9 + i9) := fun q => by have := cqr _ q; omega
      have nc14 : ¬ cq_r r ρ (r h 0) (12 + (2 + i9)) := fun q => by have := cqr _ q; omega
      have ncg : ¬ cq_r r ρ (r h 0) (ρ (r h 13)) := fun q => by have := cqr _ q; omega
      refine ⟨?_, ?_, ?_, ?_, ?_⟩
      · rw [(F8 _ (by rw [v1.2.2.2, u2]; show ¬ (_ ∨ _); omega)).2, (e.1 _ (by rw [v1.2.2.2, u2]; exact nc)).2]
      · rw [(F8 _ (by rw [v2.2.2.2, u2]; show ¬ (_ ∨ _); omega)).2, (e.1 _ (by rw [v2.2.2.2, u2]; exact nc)).2]
      · rw [(F8 _ (by rw [lq.2]; show ¬ (_ ∨ _); omega)).1, (e.1 _ (by rw [lq.2]; exact nc14)).1]
      · rw [(F8 _ (by rw [pa.2.2.2, P2]; show ¬ (_ ∨ _); omega)).2, (e.1 _ (by rw [pa.2.2.2, P2]; exact nc9)).2]
      · rw [(F8 _ (by rw [sd]; show ¬ (_ ∨ _); omega)).1, (e.1 _ (by rw [sd]; exact ncg)).1]
end CF
