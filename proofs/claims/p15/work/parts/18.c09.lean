/-- the reader's own arrays -/
noncomputable def ci_S3 (L : List Nat) (K : Nat → cw_K) (r : Nat → Nat → Nat) (w : Nat → Nat × Nat) (ρ : Nat → Nat) (h : Nat) : Prop := cg_A L K r w ρ 3 2000 (r h 0) 4 ∧ cg_A L K r w ρ 1 400 (r h 0) 9 ∧ cg_A L K r w ρ 1 400 (r h 0) 10 ∧ cg_A L K r w ρ 0 400 (r h 0) 11 ∧ cg_A L K r w ρ 0 400 (r h 0) 12
/-- all that holds of a HiddenMoves between two calls -/
noncomputable def ci_C (L : List Nat) (K : Nat → cw_K) (r : Nat → Nat → Nat) (w : Nat → Nat × Nat) (ρ : Nat → Nat) (z A : Nat → Nat → Int) (h : Nat) : Prop := ci_I L K r w ρ z A h ∧ ci_S3 L K r w ρ h
section CF
variable {L : List Nat} {K : Nat → cw_K} {r r' : Nat → Nat → Nat} {z A : Nat → Nat → Int} {w : Nat → Nat × Nat} {ρ : Nat → Nat} {S : Nat → Prop} {h : Nat}
theorem ci_X (C : ci_C L K r w ρ z A h) : cq_X L K r w ρ (r h 0) := by
  obtain ⟨⟨⟨hdg, h1, h2, h3, h4, h6, h7, h8, h9⟩, S2, -⟩, s4, s9, s10, s11, s12⟩ := C
  obtain ⟨⟨a1, a2⟩, ⟨b1, b2⟩, ⟨c1, c2, c3⟩, d, e, f, g, i, j, k, l, m, n, o, p, q⟩ := S2
  exact ⟨b1, c1, by rw [c2, b2], q.1, s4, s9, s10, s11, s12, hdg, h2, h7⟩
theorem ci_S1_r (hc : ∀ t a, cw_O L K t a → ¬ t = 5 → ¬ t = 11 → r' a = r a) (hS : ci_S1 L K r w ρ) : ci_S1 L K r' w ρ := by
  obtain ⟨hdg, h1, h2, h3, h4, h6, h7, h8, h9⟩ := hS
  have kA : ∀ c t n a k, cw_O L K c a → ¬ c = 5 → ¬ c = 11 → cg_A L K r w ρ t n a k → cg_A L K r' w ρ t n a k := by
    intro c t n a k ha c5 c11 q
    unfold cg_A at q ⊢
    rw [hc c a ha c5 c11]
    exact q
  have kO : ∀ c t a k, cw_O L K c a → ¬ c = 5 → ¬ c = 11 → cg_O L K r w ρ t a k → cg_O L K r' w ρ t a k := by
    intro c t a k ha c5 c11 q
    unfold cg_O at q ⊢
    rw [hc c a ha c5 c11]
    exact q
  have kB : ∀ c n a k, cw_O L K c a → ¬ c = 5 → ¬ c = 11 → cg_B L K r w ρ n a k → cg_B L K r' w ρ n a k := by
    intro c n a k ha c5 c11 q
    unfold cg_B at q ⊢
    rw [hc c a ha c5 c11, hc 0 _ q.1 (by decide) (by decide)]
    exact q
  have kL : ∀ c N n a k, cw_O L K c a → ¬ c = 5 → ¬ c = 11 → cg_L L K r w ρ N n a k → cg_L L K r' w ρ N n a k := by
    intro c N n a k ha c5 c11 q
    unfold cg_L at q ⊢
    rw [hc c a ha c5 c11]
    refine ⟨q.1, q.2.1, q.2.2.1, fun i hi => ?_⟩
    have q9 := q.2.2.2 i hi
    rw [hc 0 _ q9.1 (by decide) (by decide)]
    exact q9
  refine ⟨fun a ha => by rw [hc 0 a ha (by decide) (by decide)]; exact hdg a ha, ⟨fun a ha => by rw [hc 0 a ha (by decide) (by decide)]; exact h1.1 a ha, fun a ha => kB 1 _ _ _ ha (by decide) (by decide) (h1.2 a ha)⟩, fun a ha => ?_, fun a ha => ?_, fun a ha => ?_, fun a ha => ?_, fun a ha => ?_, fun a ha => ?_, fun a ha => ?_⟩
  · have q := h2 a ha
    refine ⟨kA 2 _ _ _ _ ha (by decide) (by decide) q.1, ?_, ?_⟩
    · rw [hc 2 a ha (by decide) (by decide)]; exact q.2.1
    · rw [hc 2 a ha (by decide) (by decide)]; exact q.2.2
  · have q := h3 a ha
    exact ⟨kL 3 _ _ _ _ ha (by decide) (by decide) q.1, kB 3 _ _ _ ha (by decide) (by decide) q.2⟩
  · have q := h4 a ha
    exact ⟨kB 4 _ _ _ ha (by decide) (by decide) q.1, kB 4 _ _ _ ha (by decide) (by decide) q.2.1, kB 4 _ _ _ ha (by decide) (by decide) q.2.2.1, kB 4 _ _ _ ha (by decide) (by decide) q.2.2.2.1, kO 4 _ _ _ ha (by decide) (by decide) q.2.2.2.2⟩
  · have q := h6 a ha
    exact ⟨kA 6 _ _ _ _ ha (by decide) (by decide) q.1, kA 6 _ _ _ _ ha (by decide) (by decide) q.2.1, kL 6 _ _ _ _ ha (by decide) (by decide) q.2.2.1, kB 6 _ _ _ ha (by decide) (by decide) q.2.2.2.1, kB 6 _ _ _ ha (by decide) (by decide) q.2.2.2.2⟩
  · have q := h7 a ha
    exact ⟨kA 7 _ _ _ _ ha (by decide) (by decide) q.1, kA 7 _ _ _ _ ha (by decide) (by decide) q.2.1, kA 7 _ _ _ _ ha (by decide) (by decide) q.2.2.1, kA 7 _ _ _ _ ha (by decide) (by decide) q.2.2.2.1, kA 7 _ _ _ _ ha (by decide) (by decide) q.2.2.2.2.1, kA 7 _ _ _ _ ha (by decide) (by decide) q.2.2.2.2.2⟩
  · have q := h8 a ha
    exact ⟨kL 8 _ _ _ _ ha (by decide) (by decide) q.1, kA 8 _ _ _ _ ha (by decide) (by decide) q.2.1, kA 8 _ _ _ _ ha (by decide) (by decide) q.2.2.1, kA 8 _ _ _ _ ha (by decide) (by decide) q.2.2.2.1, kB 8 _ _ _ ha (by decide) (by decide) q.2.2.2.2.1, kB 8 _ _ _ ha (by decide) (by decide) q.2.2.2.2.2.1, kB 8 _ _ _ ha (by decide) (by decide) q.2.2.2.2.2.2.1, kO 8 _ _ _ ha (by decide) (by decide) q.2.2.2.2.2.2.2⟩
  · have q := h9 a ha
    exact ⟨kA 9 _ _ _ _ ha (by decide) (by decide) q.1, kA 9 _ _ _ _ ha (by decide) (by decide) q.2.1, kA 9 _ _ _ _ ha (by decide) (by decide) q.2.2⟩
theorem cJ_r (hc : ∀ t a, cw_O L K t a → ¬ t = 5 → ¬ t = 11 → r' a = r a) (J : cJ L K r z A) : cJ L K r' z A := by
  have e : ∀ b, cw_O L K 0 b → r' b = r b := fun b hb => hc 0 b hb (by decide) (by decide)
  refine ⟨⟨⟨fun b hb => ?_, fun b c hb hcc q => ?_⟩, fun b hb => ?_⟩, J.2⟩
  · rw [e b hb]; exact J.1.1.1 b hb
  · rw [e b hb, e c hcc] at q; exact J.1.1.2 b c hb hcc q
  · have q := J.1.2 b hb
    unfold cb_k at q ⊢
    rw [e b hb]; exact q
theorem cg_F_r {g : Nat} (hc : ∀ t a, cw_O L K t a → ¬ t = 5 → ¬ t = 11 → r' a = r a) (F : cg_F L K r z A g) : cg_F L K r' z A g := by
  obtain ⟨f1, f2, f3, f4, f5⟩ := F
  have eg := hc 2 g f1 (by decide) (by decide)
  have e0 := hc 7 _ f2.1 (by decide) (by decide)
  have e1 := hc 7 _ f3.1 (by decide) (by decide)
  unfold cg_F cg_W
  rw [eg]
  refine ⟨f1, ?_, ?_, f4, f5⟩
  · unfold cs_F at f2 ⊢
    rw [e0]; exact f2
  · unfold cs_F at f3 ⊢
    rw [e1]; exact f3
theorem wq_c11_startAnew (J : cJ L K r z A) (hdg : ∀ a, cw_O L K 0 a → w (r a 0) = (a, 0)) (h9 : cg_9 L K r w ρ) (hO : cw_O L K 11 h) (l : ci_R L K ρ 5 4 4 (r h 9) 12) (f : ci_R L K ρ 9 9 2 (r h 4) 3) {Q : (Nat → Nat → Int) → (Nat → Nat → Int) → Prop} (hQ : ∀ z' A' : Nat → Nat → Int, cJ L K r z' A' → cF ρ (fun q => q = 3 ∨ q = 4 ∨ (12 ≤ q ∧ q ≤ 15)) z A z' A' → (∀ i, i < 4 → z' (cw_g K (r h 9) i) 2 = 0) → (∀ i, i < 2 → cy_W L K r A' (cw_g K (r h 4) i)) → Q z' A') : wp_c11_startAnew L K z r A h Q := by
  obtain ⟨l1, l2, l3⟩ := l
  obtain ⟨f1, f2, f3⟩ := f
  intro P2 hP2
  have at25 : ∀ (z1 : Nat → Nat → Int), cJ L K r z1 A → cF ρ (fun q => q = 3 ∨ q = 4 ∨ (12 ≤ q ∧ q ≤ 15)) z A z1 A → (∀ i, i < 4 → z1 (cw_g K (r h 9) i) 2 = 0) → wp_c11_startAnew_25 L K z1 r A h 0 Q := by
    intro z1 J1 F1 hk1
    intro P25 hP25
    have key : ∀ (k n : Nat) (A1 : Nat → Nat → Int) (x : Int), n + k = 2 → x = (n : Int) → cJ L K r z1 A1 → cF ρ (fun q => q = 3 ∨ q = 4 ∨ (12 ≤ q ∧ q ≤ 15)) z A z1 A1 → (∀ i, i < n → cy_W L K r A1 (cw_g K (r h 4) i)) → P25 A1 x := by
      intro k
      induction k with
      | zero =>
        intro n A1 x hk ex J2 F2 hw
        exact hP25 A1 x ⟨by omega, fun _ => hQ z1 A1 J2 F2 hk1 (fun i hi => hw i (by omega)), fun q => by omega⟩
      | succ k ih =>
        intro n A1 x hk ex J2 F2 hw
        have xn : x.toNat = n := by omega
        refine hP25 A1 x ⟨by omega, fun q => by omega, fun _ => ⟨hO, f1, by omega, ?_⟩⟩
        rw [xn]
        obtain ⟨g1, g2⟩ := f3 n (by omega)
        refine ⟨g1, wq_c9_restart (S := fun q => q = 3 + n) J2 hdg h9 g1 g2 (fun A2 J3 F3 W3 x' ex' => ih (n + 1) A2 x' (by omega) (by omega) J3 (cF_trans F2 (cF_mono F3 (fun q hq => by omega))) (fun i hi => ?_))⟩
        by_cases e : i = n
        · rw [e]; exact W3
        · exact cy_W_keep h9 (hw i (by omega)) F3 (by rw [(f3 i (by omega)).2]; omega)
    exact key 2 0 A 0 (by omega) rfl J1 F1 (fun i hi => by omega)
  have key : ∀ (k n : Nat) (z1 : Nat → Nat → Int) (x : Int), n + k = 4 → x = (n : Int) → cJ L K r z1 A → cF ρ (fun q => q = 3 ∨ q = 4 ∨ (12 ≤ q ∧ q ≤ 15)) z A z1 A → (∀ i, i < n → z1 (cw_g K (r h 9) i) 2 = 0) → P2 z1 x := by
    intro k
    induction k with
    | zero =>
      intro n z1 x hk ex J1 F1 hz
      exact hP2 z1 x ⟨by omega, fun _ => at25 z1 J1 F1 (fun i hi => hz i (by omega)), fun q => by omega⟩
    | succ k ih =>
      intro n z1 x hk ex J1 F1 hz
      have xn : x.toNat = n := by omega
      refine hP2 z1 x ⟨by omega, fun q => by omega, fun _ => ⟨hO, l1, by omega, ?_⟩⟩
      rw [xn]
      obtain ⟨g1, g2⟩ := l3 n (by omega)
      refine ⟨g1, fun z2 e2 x' ex' => ih (n + 1) z2 x' (by omega) (by omega) (cJ_z J1 (fun b hb => by rw [e2, cw_s_a (cw_O_ne hb g1 (by decide))])) (cF_trans F1 (by rw [e2]; exact cF_s (by rw [g2]; exact Or.inr (Or.inr (by omega))))) (fun i hi => ?_)⟩
      by_cases e : cw_g K (r h 9) i = cw_g K (r h 9) n
      · rw [e, e2, cw_s_same]
      · rw [e2, cw_s_a e]
        refine hz i ?_
        apply Classical.byContradiction
        intro hc
        exact e (by rw [show i = n by omega])
  exact key 4 0 z 0 (by omega) rfl J (cF_refl _ _ _ _) (fun i hi => by omega)
theorem wq_c11_read (C : ci_C L K r w ρ z A h) {Q : Int → (Nat → Nat → Int) → (Nat → Nat → Nat) → (Nat → Nat → Int) → Prop} (hQ : ∀ (v : Int) (z' : Nat → Nat → Int) (r' : Nat → Nat → Nat) (A' : Nat → Nat → Int), ci_C L K r' w ρ z' A' h → z' (r' (r' h 0) 2) 1 = 0 → Q v z' r' A') : wp_c11_read L K z r A h Q := by
  have X := ci_X C
  obtain ⟨I, S3⟩ := id C
  obtain ⟨S1, S2, J, T, g1, g2, W, Tt, M, Rr, q2, q15⟩ := id I
  obtain ⟨hdg, h1, h2, h3, h4, h6, h7, h8, h9⟩ := id S1
  obtain ⟨⟨a1, a2⟩, ⟨b1, b2⟩, ⟨c1, c2, c3⟩, ⟨d1, d2, d3, d4⟩, ⟨e1, e2⟩, f, g, i, j, ⟨k1, k2⟩, l, ⟨m1, m2⟩, n, o, ⟨p1, p2⟩, ⟨q1, qb, q3⟩⟩ := id S2
  have neW : h ≠ r (r h 0) 2 := cw_O_ne a1 c1 (by decide)
  have neR : r h 0 ≠ h := cw_O_ne b1 a1 (by decide)
  have neG : r h 13 ≠ h := cw_O_ne p1 a1 (by decide)
  have cqr : ∀ q, cq_r r ρ (r h 0) q → q = 1 ∨ (17 ≤ q ∧ q ≠ ρ (r h 13)) := by
    intro q hq
    rcases hq with hq | hq
    · exact Or.inl (by rw [hq, b2])
    · exact Or.inr ⟨by omega, by omega⟩
  -- what both ends have in common
  have com : ∀ (z3 A4 z6 z8 : Nat → Nat → Int), cF ρ (cq_r r ρ (r h 0)) z A z3 A4 → cJ L K r z3 A4 → cl_T L K r z3 A4 (r (r h 0) 2) → hz_rI (z3 (r h 0) 0) → z6 = cw_s z3 h 15 (z3 (r h 0) 0) → z8 = cw_s z6 (r (r h 0) 2) 1 0 → ci_C L K r w ρ z8 A4 h ∧ z8 (r (r h 0) 2) 1 = 0 ∧ cF ρ (fun q => q = 0 ∨ q = 1) z3 A4 z8 A4 := by
    intro z3 A4 z6 z8 F3 J3 T3 r0 e6 e8
    have F6 : cF ρ (fun q => q = 0 ∨ q = 1) z3 A4 z6 A4 := by rw [e6]; exact cF_s (by rw [a2]; exact Or.inl rfl)
    have F68 : cF ρ (fun q => q = 0 ∨ q = 1) z6 A4 z8 A4 := by rw [e8]; exact cF_s (by rw [c2]; exact Or.inr rfl)
    have F8 : cF ρ (fun q => q = 0 ∨ q = 1) z3 A4 z8 A4 := cF_trans F6 F68
    have zh : z3 h = z h := (F3 h (fun q => by have := cqr _ q; omega)).1
    have zh8 : ∀ y, y ≠ 15 → z8 h y = z h y := fun y hy => by rw [e8, cw_s_a neW, e6, cw_s_k hy, zh]
    have J8 : cJ L K r z8 A4 := cJ_z J3 (fun b hb => by rw [e8, cw_s_a (cw_O_ne hb c1 (by decide)), e6, cw_s_a (cw_O_ne hb a1 (by decide))])
    have T8 : cl_T L K r z8 A4 (r (r h 0) 2) := by
      obtain ⟨t1, t2, t3, t4, t5, t6⟩ := T3
      refine ⟨t1, t2, t3, by rw [e8, cw_s_same]; decide, by rw [e8, cw_s_k (by decide), e6, cw_s_a (Ne.symm neW)]; exact t5, t6⟩
    refine ⟨⟨ci_keep (S := fun q => q = 0 ∨ cq_r r ρ (r h 0) q) I ?_ J8 (fun q => ?_) (fun _ => ⟨zh8 14 (by decide), by rw [zh8 2 (by decide)]; exact q2, by rw [e8, cw_s_a neW, e6, cw_s_same]; exact r0⟩) (fun _ => T8) (fun t ht q => ?_) (fun t ht q => ?_) (fun t ht q => ?_) (fun t ht q => ?_), S3⟩, by rw [e8, cw_s_same], F8⟩
    · exact cF_trans (cF_mono F3 (fun q hq => Or.inr hq)) (cF_mono F8 (fun q hq => by
        rcases hq with hq | hq
        · exact Or.inl hq
        · exact Or.inr (Or.inl (by rw [hq, b2]))))
    · rcases q with q | q
      · omega
      · have := cqr _ q; omega
    · rcases q with q | q
      · omega
      · have := cqr _ q; omega
    · rcases q with q | q
      · omega
      · have := cqr _ q; omega
    · rcases q with q | q
      · omega
      · have := cqr _ q; omega
    · rcases q with q | q
      · omega
      · have := cqr _ q; omega
  refine ⟨a1, b1, wq_c5_understand X J T (fun z3 A4 F3 J3 T3 r0 G3 z6 e6 => ⟨c1, fun z8 e8 => ⟨by decide, fun q => absurd rfl q, fun _ => ⟨b1, fun r1 er1 r2 er2 z9 e9 => ?_⟩⟩⟩) (fun z3 A4 e z6 e6 => ⟨c1, fun z8 e8 => ⟨e.2.2.2.2.1, fun _ => ?_, fun q => absurd q e.2.2.2.1⟩⟩)⟩
  · obtain ⟨⟨I8, -⟩, w8, F8⟩ := com z3 A4 z6 z8 F3 J3 T3 (by rw [r0]; decide) e6 e8
    have J8 := I8.2.2.1
    have hc : ∀ t a, cw_O L K t a → ¬ t = 5 → ¬ t = 11 → r2 a = r a := fun t a ha t5 t11 => by rw [er2, cw_s_a (cw_O_ne ha a1 t11), er1, cw_s_a (cw_O_ne ha b1 t5)]
    have rh : ∀ y, y ≠ 13 → r2 h y = r h y := fun y hy => by rw [er2, cw_s_k hy, er1, cw_s_a (Ne.symm neR)]
    have rh13 : r2 h 13 = r (r h 0) 3 := by rw [er2, cw_s_same]
    have rR : ∀ y, y ≠ 3 → r2 (r h 0) y = r (r h 0) y := fun y hy => by rw [er2, cw_s_a neR, er1, cw_s_k hy]
    have rR3 : r2 (r h 0) 3 = r h 13 := by rw [er2, cw_s_a neR, er1, cw_s_same]
    have S1' := ci_S1_r hc S1
    have J9 : cJ L K r2 z9 A4 := cJ_r hc (cJ_z J8 (fun b hb => by rw [e9, cw_s_a (cw_O_ne hb a1 (by decide))]))
    have l' : ci_R L K ρ 5 4 4 (r2 h 9) 12 := by rw [rh 9 (by decide)]; exact l
    have f' : ci_R L K ρ 9 9 2 (r2 h 4) 3 := by rw [rh 4 (by decide)]; exact f
    refine wq_c11_startAnew J9 S1'.1 S1'.2.2.2.2.2.2.2.2 a1 l' f' (fun z10 A5 J10 F10 hk hw => ?_)
    have F9 : cF ρ (fun q => q = 0) z8 A4 z9 A4 := by rw [e9]; exact cF_s a2
    have F310 : cF ρ (fun q => q ≤ 16) z3 A4 z10 A5 := cF_trans (cF_trans (cF_mono F8 (fun q hq => by omega)) (cF_mono F9 (fun q hq => by omega))) (cF_mono F10 (fun q hq => by omega))
    have zh10 : z10 h = z9 h := (F10 h (by rw [a2]; omega)).1
    have zh9 : ∀ y, y ≠ 14 → z10 h y = z8 h y := fun y hy => by rw [zh10, e9, cw_s_k hy]
    have zW : z10 (r (r h 0) 2) = z8 (r (r h 0) 2) := by rw [(F10 _ (by rw [c2]; omega)).1, e9, cw_s_a (Ne.symm neW)]
    have aW : A5 (r (r (r h 0) 2) 0) = A4 (r (r (r h 0) 2) 0) := (F10 _ (by rw [c3]; omega)).2
    have eW : r2 (r (r h 0) 2) = r (r (r h 0) 2) := hc 10 _ c1 (by decide) (by decide)
    have T10 : cl_T L K r2 z10 A5 (r2 (r2 h 0) 2) := by
      rw [rh 0 (by decide), rR 2 (by decide)]
      have t := I8.2.2.2.1
      unfold cl_T at t ⊢
      rw [eW, zW, aW]
      exact t
    have G10 : cg_F L K r2 z10 A5 (r2 h 13) := by
      rw [rh13]
      exact cg_F_r hc (cg_F_keep h2 h7 G3 F310 (by show ¬ ρ (r (r h 0) 3) ≤ 16; omega))
    have F810 : cF ρ (fun q => q = 0 ∨ q = 3 ∨ q = 4 ∨ (12 ≤ q ∧ q ≤ 15)) z8 A4 z10 A5 := cF_trans (cF_mono F9 (fun q hq => Or.inl hq)) (cF_mono F10 (fun q hq => Or.inr hq))
    refine hQ 0 z10 r2 A5 ⟨⟨S1', ⟨⟨a1, a2⟩, ?_, ?_, ?_, ?_, f', ?_, ?_, ?_, ?_, l', ?_, ?_, ?_, ?_, ?_⟩, J10, T10, ?_, fun _ => G10, hw, ?_, ?_, ?_, ?_, ?_⟩, ?_⟩ ?_
    · rw [rh 0 (by decide)]; exact ⟨b1, b2⟩
    · rw [rh 0 (by decide), rR 2 (by decide), eW]; exact ⟨c1, c2, c3⟩
    · unfold cg_A; rw [rh 1 (by decide)]; exact ⟨d1, d2, d3, d4⟩
    · rw [rh 3 (by decide)]; exact ⟨e1, e2⟩
    · rw [rh 5 (by decide)]; exact g
    · rw [rh 6 (by decide)]; exact i
    · rw [rh 7 (by decide)]; exact j
    · rw [rh 8 (by decide)]; exact ⟨k1, k2⟩
    · rw [rh 10 (by decide)]; exact ⟨m1, m2⟩
    · have n' := n
      unfold cg_B at n' ⊢
      rw [rh 11 (by decide), hc 0 _ n'.1 (by decide) (by decide)]; exact n'
    · have n' := o
      unfold cg_B at n' ⊢
      rw [rh 12 (by decide), hc 0 _ n'.1 (by decide) (by decide)]; exact n'
    · rw [rh13]; exact ⟨q1, qb⟩
    · rw [rh 0 (by decide), rR3, rh13]; exact ⟨p1, p2, fun q => q3 q.symm⟩
    · exact Or.inr (by rw [zh10, e9, cw_s_same])
    · intro t ht x hx
      rw [rh 5 (by decide)]
      have gm := g.2.2 t ht
      rw [hc 3 _ gm.1 (by decide) (by decide)]
      obtain ⟨⟨y1, y2, y3, y4⟩, -⟩ := h3 _ gm.1
      rw [(F810 _ (by rw [(y4 x hx).2.2.2, gm.2]; omega)).1]
      exact I8.2.2.2.2.2.2.2.1 t ht x hx
    · intro t ht x hx
      rw [rh 6 (by decide)]
      have gm := i.2.2 t ht
      rw [hc 3 _ gm.1 (by decide) (by decide)]
      obtain ⟨⟨y1, y2, y3, y4⟩, -⟩ := h3 _ gm.1
      have q := (cF_big h1 F810 (y4 x hx).1 (by rw [(y4 x hx).2.2.2, gm.2]; omega)).1
      have q' := I8.2.2.2.2.2.2.2.2.1 t ht x hx
      unfold cb_u at q q' ⊢
      rw [hc 0 _ (y4 x hx).1 (by decide) (by decide), q]
      exact q'
    · intro t ht
      have := hk t ht
      exact ⟨Or.inl this, fun q => by omega⟩
    · rw [zh9 2 (by decide)]; exact I8.2.2.2.2.2.2.2.2.2.2.1
    · rw [zh9 15 (by decide)]; exact I8.2.2.2.2.2.2.2.2.2.2.2
    · unfold ci_S3 cg_A at S3 ⊢
      rw [rh 0 (by decide), rR 4 (by decide), rR 9 (by decide), rR 10 (by decide), rR 11 (by decide), rR 12 (by decide)]
      exact S3
    · rw [rh 0 (by decide), rR 2 (by decide), zW]
      exact w8
  · obtain ⟨C8, w8, -⟩ := com z3 A4 z6 z8 e.1 e.2.1 e.2.2.1 e.2.2.2.2.2 e6 e8
    exact hQ _ z8 r A4 C8 w8
end CF
