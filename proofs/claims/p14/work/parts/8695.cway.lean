/-- class and model were told the same chances -/
noncomputable def wy_R (K : Nat → cw_K) (r : Nat → Nat → Nat) (h : Nat) (A Am : Nat → Nat → Int) : Prop := ∀ t, t < 2 → ∀ i, i < 40 → 1 ≤ A (r (cw_g K (r h 4) t) 1) i ∧ 1 ≤ Am 50 (40 * t + i) ∧ A (r (cw_g K (r h 4) t) 0) i * Am 50 (40 * t + i) = Am 49 (40 * t + i) * A (r (cw_g K (r h 4) t) 1) i
/-- way t is good, with the class's game and the model's chances -/
noncomputable def ce_G (K : Nat → cw_K) (r : Nat → Nat → Nat) (h : Nat) (z A Am : Nat → Nat → Int) (t : Nat) : Prop := wy_G (fun i => Am 49 (40 * t + i)) (fun i => Am 50 (40 * t + i)) (A (r (cw_g K (r (r h 13) 1) t) 2)) (z (cw_g K (r (r h 13) 1) t) 0)
section CI
variable {L : List Nat} {K : Nat → cw_K} {r r' : Nat → Nat → Nat} {z A : Nat → Nat → Int} {w : Nat → Nat × Nat} {ρ : Nat → Nat} {S : Nat → Prop} {h g R : Nat} {σ Am : Nat → Nat → Int} {zm : Nat → Int}
theorem ce_me {t : Nat} (ht : t < 2) (G : sg_R K r (r h 13) σ z A) (M : mg_R (zm 32).toNat Am σ) : ce_G K r h z A Am t ↔ me_G zm Am t :=
  wy_G_congr ((G.2 t ht).1.trans (M.2.1 t ht).symm) (fun i hi => ((G.2 t ht).2 i (by rw [← M.2.1 t ht]; exact hi)).2.1.trans ((M.2.2 t ht).2 i (by rw [← M.2.1 t ht]; exact hi)).2.1.symm)
theorem wl_c11_isGood {p : Int} (I : ci_I L K r w ρ z A h) (hp : p = 0 ∨ p = 1) (hg : z h 14 = 1) (W9 : wy_R K r h A Am) {Q : Int → Prop} (h1 : ce_G K r h z A Am p.toNat → Q 1) (h0 : ¬ ce_G K r h z A Am p.toNat → Q 0) : wp_c11_isGood L K z r A h p Q := by
  obtain ⟨s1, s2, s3⟩ := ci_side (p := p + 1) I (by omega) hg
  rw [show p + 1 - 1 = p by omega] at s3
  obtain ⟨-, -, -, -, -, ⟨f1, f2, f3⟩, -⟩ := I.2.1
  have W := I.2.2.2.2.2.2.1 p.toNat (by omega)
  have w9 := W9 p.toNat (by omega)
  exact ⟨I.2.1.1.1, f1, by omega, (I.2.2.2.2.2.1 hg).1, s1, by omega, (f3 _ (by omega)).1, wl_c9_isGood (f := fun i => Am 49 (40 * p.toNat + i)) (g := fun i => Am 50 (40 * p.toNat + i)) I.1.2.2.2.2.2.2.1 I.1.2.2.2.2.2.2.2.2 s3 W (fun i hi => (w9 i hi).1) (fun i hi => (w9 i hi).2.1) (fun i hi => (w9 i hi).2.2) (fun G => ⟨Or.inr rfl, h1 G⟩) (fun n => ⟨Or.inl rfl, h0 n⟩)⟩
theorem wx_c11_tell {y1 y2 y3 y4 y5 : Int} (I : ci_I L K r w ρ z A h) (e1 : hz_rI y1) (e2 : hz_rI y2) (e3 : hz_rI y3) (e4 : hz_rI y4) (e5 : hz_rI y5) (G : z h 14 = 1 → sg_R K r (r h 13) σ z A) {Q : (Nat → Nat → Int) → Prop} {X : String → (Nat → Nat → Int) → Prop} (hQ : ∀ A' : Nat → Nat → Int, ci_I L K r w ρ z A' h → ci_D ρ h z A z A' → la_tell (z h 14) σ y1 y2 y3 y4 y5 0 → (∀ t, t < 2 → ∀ i, ¬ (t = (y1 - 1).toNat ∧ i = (y2 * 4 + y3).toNat) → A' (r (cw_g K (r h 4) t) 0) i = A (r (cw_g K (r h 4) t) 0) i ∧ A' (r (cw_g K (r h 4) t) 1) i = A (r (cw_g K (r h 4) t) 1) i) → 1 ≤ A' (r (cw_g K (r h 4) (y1 - 1).toNat) 1) (y2 * 4 + y3).toNat → A' (r (cw_g K (r h 4) (y1 - 1).toNat) 0) (y2 * 4 + y3).toNat * y5 = y4 * A' (r (cw_g K (r h 4) (y1 - 1).toNat) 1) (y2 * 4 + y3).toNat → (0 ≤ y2 ∧ y2 < 10) → ((0 ≤ y3 ∧ y3 < 4) ∧ Nat.gcd (A' (r (cw_g K (r h 4) (y1 - 1).toNat) 0) (y2 * 4 + y3).toNat).natAbs (A' (r (cw_g K (r h 4) (y1 - 1).toNat) 1) (y2 * 4 + y3).toNat).natAbs = 1 ∧ ∀ i, i < 2 → A' (r (cw_g K (r h 7) i) 0) = A (r (cw_g K (r h 7) i) 0)) → Q A') (hX1 : la_tell (z h 14) σ y1 y2 y3 y4 y5 1 → X "java/lang/IndexOutOfBoundsException" A) (hX2 : la_tell (z h 14) σ y1 y2 y3 y4 y5 2 → X "java/lang/IllegalArgumentException" A) : wp_c11_tell L K z r A h y1 y2 y3 y4 y5 Q X := by
  obtain ⟨hdg, h1, h2, h3, h4, h6, h7, h8, h9⟩ := id I.1
  obtain ⟨⟨a1, a2⟩, -, -, -, -, ⟨f1, f2, f3⟩, -, -, ⟨j1, j2, j3⟩, -⟩ := id I.2.1
  have pg := (ci_g I).2
  have no : ¬ la_mv (z h 14) σ y1 y2 y3 → wp_c11_tell_21 L K z r A Q X := fun n => hX1 (Or.inl ⟨n, rfl⟩)
  refine ⟨a1, wl_c11_isPlaying I e1 (fun hp hg => ⟨by decide, fun q => absurd q (by decide), fun _ => wq_c11_sideOf I hp hg (fun F => ⟨F.1, ?_⟩)⟩) (fun n => ⟨by decide, fun _ => no (fun q => n ⟨q.1.1, q.1.2.1⟩), fun q => absurd rfl q⟩)⟩
  obtain ⟨s1, s2⟩ := (G hg).2 (y1 - 1).toNat (by omega)
  have s10 := F.2.1
  refine wl_c7_hasMove h7 F e2 e3 (fun hi hj hj4 => ⟨by decide, fun _ => ?_, fun q => absurd q (by decide)⟩) (fun n => ⟨by decide, fun q => absurd rfl q, fun _ => no (fun q => n ?_)⟩)
  · have v2 := (s2 y2.toNat (by omega)).2.1
    have yes : la_mv (z h 14) σ y1 y2 y3 := ⟨⟨hg, hp, by omega, by omega⟩, by omega, by omega⟩
    have no2 : ¬ (1 ≤ y5 ∧ y5 ≤ 9999 ∧ 0 ≤ y4 ∧ y4 ≤ y5) → wp_c11_tell_57 L K z r A Q X := fun n => hX2 (Or.inr (Or.inl ⟨yes, n, rfl⟩))
    refine ⟨e5, fun c => no2 (by omega), fun g1 => ⟨e5, fun c => no2 (by omega), fun g2 => ⟨e4, fun c => no2 (by omega), fun g3 => ⟨e4, e5, fun g4 => ?_, fun c => no2 (by omega)⟩⟩⟩⟩
    obtain ⟨g5, g6⟩ := f3 (y1 - 1).toNat (by omega)
    have W := I.2.2.2.2.2.2.1 (y1 - 1).toNat (by omega)
    refine ⟨f1, by omega, g5, wz_c9_putChance (S := fun q => q = 3 + (y1 - 1).toNat) I.2.2.1 hdg h9 g6 W (by omega) (by omega) (by omega) (by omega) (fun A' J' F' W' oth pos9 mul9 cop9 => hQ A' (ci_keep I F' J' (by show ¬ ρ (r h 13) = _; omega) (fun q => by omega) (fun q => by omega) (fun i hi q => ?_) (fun i hi q => by omega) (fun i hi q => by omega) (fun i hi q => by omega)) ⟨cF_mono F' (fun q hq => by omega), fun _ _ => rfl⟩ (Or.inr (Or.inr ⟨yes, by omega, rfl⟩)) (fun t ht i9 hn => ?_) pos9 mul9 ⟨by omega, by omega⟩ ⟨⟨by omega, by omega⟩, cop9, fun i9 hi9 => (F' _ (by rw [(h6 _ (j3 i9 hi9).1).1.2.2.2, (j3 i9 hi9).2]; show ¬ _ = _; omega)).2⟩)⟩
    · have : i = (y1 - 1).toNat := by omega
      rw [this]
      exact W'
    · by_cases e9 : t = (y1 - 1).toNat
      · rw [e9]
        exact oth i9 (fun q => hn ⟨e9, q⟩)
      · obtain ⟨u1, u2⟩ := f3 t ht
        obtain ⟨v1, v2, -⟩ := h9 _ u1
        rw [(F' _ (by rw [v1.2.2.2, u2]; show ¬ _ = _; omega)).2, (F' _ (by rw [v2.2.2.2, u2]; show ¬ _ = _; omega)).2]
        exact ⟨rfl, rfl⟩
  · obtain ⟨⟨q1, q2, q3, q4⟩, q5, q6⟩ := q
    have v2 := (s2 y2.toNat (by omega)).2.1
    exact ⟨⟨q3, by rw [s1]; exact q4⟩, q5, by rw [v2]; exact q6⟩
end CI
