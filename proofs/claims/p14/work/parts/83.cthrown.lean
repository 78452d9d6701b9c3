section CZ
variable {L : List Nat} {K : Nat → cw_K} {r : Nat → Nat → Nat} {z A : Nat → Nat → Int} {w : Nat → Nat × Nat} {ρ : Nat → Nat} {S : Nat → Prop} {V m a b c h : Nat}
theorem cz_I_keepF (h1 : cg_1 L K r w ρ) (h8 : cg_8 L K r w ρ) (hV : cw_O L K 8 V) {z' A' : Nat → Nat → Int} (hI : cz_I L K r z A V m a b c) (hF : cF ρ S z A z' A') (hS : ¬ S (ρ V)) : cz_I L K r z' A' V m a b c := by
  obtain ⟨hb, he, ⟨T, β, γ, hB, C1, C2, C3, C4, C5, C6⟩, r1, r2⟩ := hI
  obtain ⟨⟨c1, c2, c3, c4⟩, ⟨u1, u2, u3, u4⟩, ⟨v1, v2, v3, v4⟩, -, ⟨k1, k2, k3, k4⟩, -⟩ := h8 V hV
  refine ⟨hb, by rw [(hF V hS).1]; exact he, ⟨T, β, γ, hB, C1, C2, by rw [(cF_big h1 hF k1 (by rw [k4]; exact hS)).2.1]; exact C3, fun i j hi hj => ?_, C5, C6⟩, by rw [(hF _ (by rw [u4]; exact hS)).2]; exact r1, by rw [(hF _ (by rw [v4]; exact hS)).2]; exact r2⟩
  obtain ⟨g1, g2, g3, g4⟩ := c4 (i * 30 + j) (by omega)
  rw [(cF_big h1 hF g1 (by rw [g4]; exact hS)).2.1]
  exact C4 i j hi hj
/-- the regions may tell the HiddenMoves itself from its numbers -/
theorem ci_S1_h (hA : ∀ a, cw_O L K 0 a → cw_A L K 0 (r a 0)) (hO : cw_O L K 11 h) (hS : ci_S1 L K r w ρ) : ci_S1 L K r w (lp_U ρ h 99) := by
  obtain ⟨hdg, h1, h2, h3, h4, h6, h7, h8, h9⟩ := hS
  have eO : ∀ t a, cw_O L K t a → ¬ t = 11 → lp_U ρ h 99 a = ρ a := fun t a ha ht => lp_U_other (cw_O_ne ha hO ht)
  have eA : ∀ t a, cw_A L K t a → lp_U ρ h 99 a = ρ a := fun t a ha => lp_U_other (Ne.symm (cw_OA_ne hO ha))
  have kA : ∀ c t n a k, cw_O L K c a → ¬ c = 11 → cg_A L K r w ρ t n a k → cg_A L K r w (lp_U ρ h 99) t n a k := fun c t n a k ha hc q => ⟨q.1, q.2.1, q.2.2.1, by rw [eA _ _ q.1, eO _ _ ha hc]; exact q.2.2.2⟩
  have kO : ∀ c t a k, cw_O L K c a → ¬ c = 11 → ¬ t = 11 → cg_O L K r w ρ t a k → cg_O L K r w (lp_U ρ h 99) t a k := fun c t a k ha hc ht q => ⟨q.1, q.2.1, by rw [eO _ _ q.1 ht, eO _ _ ha hc]; exact q.2.2⟩
  have kB : ∀ c n a k, cw_O L K c a → ¬ c = 11 → cg_B L K r w ρ n a k → cg_B L K r w (lp_U ρ h 99) n a k := fun c n a k ha hc q => ⟨q.1, q.2.1, q.2.2.1, by rw [eO _ _ q.1 (by decide), eO _ _ ha hc]; exact q.2.2.2⟩
  have kL : ∀ c N n a k, cw_O L K c a → ¬ c = 11 → cg_L L K r w ρ N n a k → cg_L L K r w (lp_U ρ h 99) N n a k := fun c N n a k ha hc q => ⟨q.1, q.2.1, q.2.2.1, fun i hi => by
    have q9 := q.2.2.2 i hi
    exact ⟨q9.1, q9.2.1, q9.2.2.1, by rw [eO _ _ q9.1 (by decide), eO _ _ ha hc]; exact q9.2.2.2⟩⟩
  refine ⟨hdg, ⟨fun a ha => ?_, fun a ha => kB 1 _ _ _ ha (by decide) (h1.2 a ha)⟩, fun a ha => ?_, fun a ha => ?_, fun a ha => ?_, fun a ha => ?_, fun a ha => ?_, fun a ha => ?_, fun a ha => ?_⟩
  · rw [eA _ _ (hA a ha), eO _ _ ha (by decide)]; exact h1.1 a ha
  · have q := h2 a ha
    refine ⟨kA 2 _ _ _ _ ha (by decide) q.1, ⟨q.2.1.1, q.2.1.2.1, fun i hi => ?_⟩, ⟨q.2.2.1, q.2.2.2.1, fun i hi => ?_⟩⟩
    · have q9 := q.2.1.2.2 i hi
      exact ⟨q9.1, q9.2.1, by rw [eO _ _ q9.1 (by decide), eO _ _ ha (by decide)]; exact q9.2.2⟩
    · have q9 := q.2.2.2.2 i hi
      exact ⟨q9.1, q9.2.1, q9.2.2.1, by rw [eA _ _ q9.1, eO _ _ ha (by decide)]; exact q9.2.2.2⟩
  · have q := h3 a ha
    exact ⟨kL 3 _ _ _ _ ha (by decide) q.1, kB 3 _ _ _ ha (by decide) q.2⟩
  · have q := h4 a ha
    exact ⟨kB 4 _ _ _ ha (by decide) q.1, kB 4 _ _ _ ha (by decide) q.2.1, kB 4 _ _ _ ha (by decide) q.2.2.1, kB 4 _ _ _ ha (by decide) q.2.2.2.1, kO 4 _ _ _ ha (by decide) (by decide) q.2.2.2.2⟩
  · have q := h6 a ha
    exact ⟨kA 6 _ _ _ _ ha (by decide) q.1, kA 6 _ _ _ _ ha (by decide) q.2.1, kL 6 _ _ _ _ ha (by decide) q.2.2.1, kB 6 _ _ _ ha (by decide) q.2.2.2.1, kB 6 _ _ _ ha (by decide) q.2.2.2.2⟩
  · have q := h7 a ha
    exact ⟨kA 7 _ _ _ _ ha (by decide) q.1, kA 7 _ _ _ _ ha (by decide) q.2.1, kA 7 _ _ _ _ ha (by decide) q.2.2.1, kA 7 _ _ _ _ ha (by decide) q.2.2.2.1, kA 7 _ _ _ _ ha (by decide) q.2.2.2.2.1, kA 7 _ _ _ _ ha (by decide) q.2.2.2.2.2⟩
  · have q := h8 a ha
    exact ⟨kL 8 _ _ _ _ ha (by decide) q.1, kA 8 _ _ _ _ ha (by decide) q.2.1, kA 8 _ _ _ _ ha (by decide) q.2.2.1, kA 8 _ _ _ _ ha (by decide) q.2.2.2.1, kB 8 _ _ _ ha (by decide) q.2.2.2.2.1, kB 8 _ _ _ ha (by decide) q.2.2.2.2.2.1, kB 8 _ _ _ ha (by decide) q.2.2.2.2.2.2.1, kO 8 _ _ _ ha (by decide) (by decide) q.2.2.2.2.2.2.2⟩
  · have q := h9 a ha
    exact ⟨kA 9 _ _ _ _ ha (by decide) q.1, kA 9 _ _ _ _ ha (by decide) q.2.1, kA 9 _ _ _ _ ha (by decide) q.2.2⟩
theorem cT_M_work : 100000000000000000 * (4294967296 : Int) ^ 12 < 4294967296 ^ 32 := by decide +kernel
end CZ
