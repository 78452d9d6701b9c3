/-- the reader's own arrays -/
noncomputable def ci_S3 (L : List Nat) (K : Nat → cw_K) (r : Nat → Nat → Nat) (w : Nat → Nat × Nat) (ρ : Nat → Nat) (h : Nat) : Prop := cg_A L K r w ρ 3 2000 (r h 0) 4 ∧ cg_A L K r w ρ 1 400 (r h 0) 9 ∧ cg_A L K r w ρ 1 400 (r h 0) 10 ∧ cg_A L K r w ρ 0 400 (r h 0) 11 ∧ cg_A L K r w ρ 0 400 (r h 0) 12
/-- all that holds of a HiddenMoves between two calls -/
noncomputable def ci_C (L : List Nat) (K : Nat → cw_K) (r : Nat → Nat → Nat) (w : Nat → Nat × Nat) (ρ : Nat → Nat) (z A : Nat → Nat → Int) (h : Nat) : Prop := ci_I L K r w ρ z A h ∧ ci_S3 L K r w ρ h
section CF
variable {L : List Nat} {K : Nat → cw_K} {r r' : Nat → Nat → Nat} {z A : Nat → Nat → Int} {w : Nat → Nat × Nat} {ρ : Nat → Nat} {S : Nat → Prop} {h : Nat}
theorem ci_X (C : ci_C L K r w ρ z A h) : cq_X L K r w ρ (r h 0) := by
  obtain ⟨⟨⟨hdg, h1, h2, h3, h4, h6, h7, h8, h9⟩, S2, -⟩, s4, s9, s10, s11, s12⟩ := C
  obtain ⟨⟨a1, a2⟩, ⟨b1, b2⟩, ⟨c1, c2, c3⟩, d, e, f, g, i, j, k, l, m, n, o, p, q⟩ := S2
  exact ⟨b1, c1, by rw [c2, b2], q.1, s4, s9, s10, s11, s12, hdg, h2, h7⟩
theorem ci_S1_r (hc : ∀ t a, cw_O L K t a → ¬ t = 5 → ¬ t = 11 → r' a = r a) (hS : ci_S1 L K r w ρ) : ci_S1 L K r' w ρ := by
  obtain ⟨hdg, h1, h2, h3, h4, h6, h7, h8, h9⟩ := hS
  have kA : ∀ c t n a k, cw_O L K c a → ¬ c = 5 → ¬ c = 11 → cg_A L K r w ρ t n a k → cg_A L K r' w ρ t n a k := by
    intro c t n a k ha c5 c11 q
    unfold cg_A at q ⊢
    rw [hc c a ha c5 c11]
    exact q
  have kO : ∀ c t a k, cw_O L K c a → ¬ c = 5 → ¬ c = 11 → cg_O L K r w ρ t a k → cg_O L K r' w ρ t a k := by
    intro c t a k ha c5 c11 q
    unfold cg_O at q ⊢
    rw [hc c a ha c5 c11]
    exact q
  have kB : ∀ c n a k, cw_O L K c a → ¬ c = 5 → ¬ c = 11 → cg_B L K r w ρ n a k → cg_B L K r' w ρ n a k := by
    intro c n a k ha c5 c11 q
    unfold cg_B at q ⊢
    rw [hc c a ha c5 c11, hc 0 _ q.1 (by decide) (by decide)]
    exact q
  have kL : ∀ c N n a k, cw_O L K c a → ¬ c = 5 → ¬ c = 11 → cg_L L K r w ρ N n a k → cg_L L K r' w ρ N n a k := by
    intro c N n a k ha c5 c11 q
    unfold cg_L at q ⊢
    rw [hc c a ha c5 c11]
    refine ⟨q.1, q.2.1, q.2.2.1, fun i hi => ?_⟩
    have q9 := q.2.2.2 i hi
    rw [hc 0 _ q9.1 (by decide) (by decide)]
    exact q9
  refine ⟨fun a ha => by rw [hc 0 a ha (by decide) (by decide)]; exact hdg a ha, ⟨fun a ha => by rw [hc 0 a ha (by decide) (by decide)]; exact h1.1 a ha, fun a ha => kB 1 _ _ _ ha (by decide) (by decide) (h1.2 a ha)⟩, fun a ha => ?_, fun a ha => ?_, fun a ha => ?_, fun a ha => ?_, fun a ha => ?_, fun a ha => ?_, fun a ha => ?_⟩
  · have q := h2 a ha
    refine ⟨kA 2 _ _ _ _ ha (by decide) (by decide) q.1, ?_, ?_⟩
    · rw [hc 2 a ha (by decide) (by decide)]; exact q.2.1
    · rw [hc 2 a ha (by decide) (by decide)]; exact q.2.2
  · have q := h3 a ha
    exact ⟨kL 3 _ _ _ _ ha (by decide) (by decide) q.1, kB 3 _ _ _ ha (by decide) (by decide) q.2⟩
  · have q := h4 a ha
    exact ⟨kB 4 _ _ _ ha (by decide) (by decide) q.1, kB 4 _ _ _ ha (by decide) (by decide) q.2.1, kB 4 _ _ _ ha (by decide) (by decide) q.2.2.1, kB 4 _ _ _ ha (by decide) (by decide) q.2.2.2.1, kO 4 _ _ _ ha (by decide) (by decide) q.2.2.2.2⟩
  · have q := h6 a ha
    exact ⟨kA 6 _ _ _ _ ha (by decide) (by decide) q.1, kA 6 _ _ _ _ ha (by decide) (by decide) q.2.1, kL 6 _ _ _ _ ha (by decide) (by decide) q.2.2.1, kB 6 _ _ _ ha (by decide) (by decide) q.2.2.2.1, kB 6 _ _ _ ha (by decide) (by decide) q.2.2.2.2⟩
  · have q := h7 a ha
    exact ⟨kA 7 _ _ _ _ ha (by decide) (by decide) q.1, kA 7 _ _ _ _ ha (by decide) (by decide) q.2.1, kA 7 _ _ _ _ ha (by decide) (by decide) q.2.2.1, kA 7 _ _ _ _ ha (by decide) (by decide) q.2.2.2.1, kA 7 _ _ _ _ ha (by decide) (by decide) q.2.2.2.2.1, kA 7 _ _ _ _ ha (by decide) (by decide) q.2.2.2.2.2⟩
  · have q := h8 a ha
    exact ⟨kL 8 _ _ _ _ ha (by decide) (by decide) q.1, kA 8 _ _ _ _ ha (by decide) (by decide) q.2.1, kA 8 _ _ _ _ ha (by decide) (by decide) q.2.2.1, kA 8 _ _ _ _ ha (by decide) (by decide) q.2.2.2.1, kB 8 _ _ _ ha (by decide) (by decide) q.2.2.2.2.1, kB 8 _ _ _ ha (by decide) (by decide) q.2.2.2.2.2.1, kB 8 _ _ _ ha (by decide) (by decide) q.2.2.2.2.2.2.1, kO 8 _ _ _ ha (by decide) (by decide) q.2.2.2.2.2.2.2⟩
  · have q := h9 a ha
    exact ⟨kA 9 _ _ _ _ ha (by decide) (by decide) q.1, kA 9 _ _ _ _ ha (by decide) (by decide) q.2.1, kA 9 _ _ _ _ ha (by decide) (by decide) q.2.2⟩
theorem cJ_r (hc : ∀ t a, cw_O L K t a → ¬ t = 5 → ¬ t = 11 → r' a = r a) (J : cJ L K r z A) : cJ L K r' z A := by
  have e : ∀ b, cw_O L K 0 b → r' b = r b := fun b hb => hc 0 b hb (by decide) (by decide)
  refine ⟨⟨⟨fun b hb => ?_, fun b c hb hcc q => ?_⟩, fun b hb => ?_⟩, J.2⟩
  · rw [e b hb]; exact J.1.1.1 b hb
  · rw [e b hb, e c hcc] at q; exact J.1.1.2 b c hb hcc q
  · have q := J.1.2 b hb
    unfold cb_k at q ⊢
    rw [e b hb]; exact q
theorem cg_F_r {g : Nat} (hc : ∀ t a, cw_O L K t a → ¬ t = 5 → ¬ t = 11 → r' a = r a) (F : cg_F L K r z A g) : cg_F L K r' z A g := by
  obtain ⟨f1, f2, f3, f4, f5⟩ := F
  have eg := hc 2 g f1 (by decide) (by decide)
  have e0 := hc 7 _ f2.1 (by decide) (by decide)
  have e1 := hc 7 _ f3.1 (by decide) (by decide)
  unfold cg_F cg_W
  rw [eg]
  refine ⟨f1, ?_, ?_, f4, f5⟩
  · unfold cs_F at f2 ⊢
    rw [e0]; exact f2
  · unfold cs_F at f3 ⊢
    rw [e1]; exact f3
end CF
