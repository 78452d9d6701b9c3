/-- class and model were told the same chances -/
noncomputable def wy_R (K : Nat → cw_K) (r : Nat → Nat → Nat) (h : Nat) (A Am : Nat → Nat → Int) : Prop := ∀ t, t < 2 → ∀ i, i < 40 → 1 ≤ A (r (cw_g K (r h 4) t) 1) i ∧ 1 ≤ Am 50 (40 * t + i) ∧ A (r (cw_g K (r h 4) t) 0) i * Am 50 (40 * t + i) = Am 49 (40 * t + i) * A (r (cw_g K (r h 4) t) 1) i
/-- way t is good, with the class's game and the model's chances -/
noncomputable def ce_G (K : Nat → cw_K) (r : Nat → Nat → Nat) (h : Nat) (z A Am : Nat → Nat → Int) (t : Nat) : Prop := wy_G (fun i => Am 49 (40 * t + i)) (fun i => Am 50 (40 * t + i)) (A (r (cw_g K (r (r h 13) 1) t) 2)) (z (cw_g K (r (r h 13) 1) t) 0)
section CI
variable {L : List Nat} {K : Nat → cw_K} {r r' : Nat → Nat → Nat} {z A : Nat → Nat → Int} {w : Nat → Nat × Nat} {ρ : Nat → Nat} {S : Nat → Prop} {h g R : Nat} {σ Am : Nat → Nat → Int} {zm : Nat → Int}
theorem ce_me {t : Nat} (ht : t < 2) (G : sg_R K r (r h 13) σ z A) (M : mg_R (zm 32).toNat Am σ) : ce_G K r h z A Am t ↔ me_G zm Am t :=
  wy_G_congr ((G.2 t ht).1.trans (M.2.1 t ht).symm) (fun i hi => ((G.2 t ht).2 i (by rw [← M.2.1 t ht]; exact hi)).2.1.trans ((M.2.2 t ht).2 i (by rw [← M.2.1 t ht]; exact hi)).2.1.symm)
theorem wl_c11_isGood {p : Int} (I : ci_I L K r w ρ z A h) (hp : p = 0 ∨ p = 1) (hg : z h 14 = 1) (W9 : wy_R K r h A Am) {Q : Int → Prop} (h1 : ce_G K r h z A Am p.toNat → Q 1) (h0 : ¬ ce_G K r h z A Am p.toNat → Q 0) : wp_c11_isGood L K z r A h p Q := by
  obtain ⟨s1, s2, s3⟩ := ci_side (p := p + 1) I (by omega) hg
  rw [show p + 1 - 1 = p by omega] at s3
  obtain ⟨-, -, -, -, -, ⟨f1, f2, f3⟩, -⟩ := I.2.1
  have W := I.2.2.2.2.2.2.1 p.toNat (by omega)
  have w9 := W9 p.toNat (by omega)
  exact ⟨I.2.1.1.1, f1, by omega, (I.2.2.2.2.2.1 hg).1, s1, by omega, (f3 _ (by omega)).1, wl_c9_isGood (f := fun i => Am 49 (40 * p.toNat + i)) (g := fun i => Am 50 (40 * p.toNat + i)) I.1.2.2.2.2.2.2.1 I.1.2.2.2.2.2.2.2.2 s3 W (fun i hi => (w9 i hi).1) (fun i hi => (w9 i hi).2.1) (fun i hi => (w9 i hi).2.2) (fun G => ⟨Or.inr rfl, h1 G⟩) (fun n => ⟨Or.inl rfl, h0 n⟩)⟩
theorem wx_c11_judge {y : Int} (I : ci_I L K r w ρ z A h) (hy : hz_rI y) (W9 : z h 14 = 1 → wy_R K r h A Am) {Q : (Nat → Nat → Int) → (Nat → Nat → Int) → Prop} {X : String → (Nat → Nat → Int) → (Nat → Nat → Int) → Prop} (hQ : ((y = 1 ∨ y = 2) ∧ z h 14 = 1 ∧ ce_G K r h z A Am (y - 1).toNat) → ∀ z' A' : Nat → Nat → Int, ci_I L K r w ρ z' A' h → z' (r (r h 0) 2) 1 = z (r (r h 0) 2) 1 → ci_E K r ρ h z A z' A' → Q z' A') (hX1 : (y = 1 ∨ y = 2) → ¬ (z h 14 = 1 ∧ ce_G K r h z A Am (y - 1).toNat) → X "java/lang/IllegalStateException" z A) (hX2 : ¬ (y = 1 ∨ y = 2) → X "java/lang/IllegalArgumentException" z A) : wp_c11_judge L K z r A h y Q X := by
  obtain ⟨hdg, h1, h2, h3, h4, h6, h7, h8, h9⟩ := id I.1
  obtain ⟨⟨a1, a2⟩, -, ⟨c1, c2, c3⟩, -, -, -, ⟨g1, g2, g3⟩, -, ⟨j1, j2, j3⟩, -, ⟨l1, l2, l3⟩, -⟩ := id I.2.1
  have pg := (ci_g I).2
  have gg := I.2.2.2.2.1
  have no : (y = 1 ∨ y = 2) → ¬ (z h 14 = 1 ∧ ce_G K r h z A Am (y - 1).toNat) → wp_c11_judge_36 L K z r A Q X := hX1
  refine wq_c11_isPlayer hy (fun hp => ⟨by decide, fun _ x ex => ⟨a1, by omega, fun c => no hp (fun q => by have := q.1; omega), fun c => ?_⟩, fun q => absurd q (by decide)⟩) (fun np => ⟨by decide, fun q => absurd rfl q, fun _ => hX2 np⟩)
  have hg : z h 14 = 1 := by omega
  have hx : x = 0 ∨ x = 1 := by omega
  have exy : x.toNat = (y - 1).toNat := by omega
  refine wl_c11_isGood I hx hg (W9 hg) (fun G1 => ⟨by decide, fun _ => ?_, fun q => absurd q (by decide)⟩) (fun n1 => ⟨by decide, fun q => absurd rfl q, fun _ => no hp (fun q => n1 (by rw [exy]; exact q.2))⟩)
  refine we_c11_spreadWay I hx hg (fun z1 A1 I1 zh1 zw1 dd1 => ⟨j1, by omega, ?_⟩)
  have hg1 : z1 h 14 = 1 := by rw [zh1]; exact hg
  have hF1 := I1.2.2.2.2.2.1 hg1
  obtain ⟨P1, P2⟩ := j3 x.toNat (by omega)
  obtain ⟨m1, m2⟩ := g3 x.toNat (by omega)
  obtain ⟨R1, R2⟩ := l3 (2 + x).toNat (by omega)
  have T1 := I1.2.2.2.2.2.2.2.1 x.toNat (by omega)
  have M1 := cm_T_M I1.2.2.1 h3 m1 T1
  refine ⟨g1, by omega, P1, ?_⟩
  refine wq_c6_work (S := fun q => q = 9 + x.toNat) (M := 4294967296 ^ 12) I1.2.2.1 hdg h1 h2 h3 h6 h7 P1 P2 hF1 (by show ¬ ρ (r h 13) = _; omega) (by omega) m1 (by rw [m2]; omega) M1 (Int.le_of_lt (Int.pow_pos (by decide))) cT_M_work (fun z2 A2 J2 F2 => ⟨l1, by omega, by omega, ?_⟩)
  obtain ⟨⟨y1, y2, y3, y4⟩, -⟩ := h3 _ m1
  obtain ⟨-, -, ⟨n1, n2, n3, n4⟩, -, -⟩ := h6 _ P1
  refine wq_c6_worth h6 P1 ⟨by omega, m1, y1, by omega, hF1.1, R1, ?_⟩
  show wp_c4_put L K z2 r A2 (cw_g K (r h 9) (2 + x).toNat) (cw_g K (r (cw_g K (r h 7) x.toNat) 2) 0) (cw_g K (r (cw_g K (r h 5) x.toNat) 0) 0) (z2 (r h 13) 2) _
  have lg := (J2.1.2 _ (n4 0 (by omega)).1).1
  have lp := (J2.1.2 _ (y4 0 (by omega)).1).1
  have ln := (n4 0 (by omega)).2.1
  have lq := (y4 0 (by omega)).2.1
  refine wq_c4_put (S := fun q => q = 12 + (2 + x).toNat) J2 h1 h4 R1 R2 (n4 0 (by omega)).1 (y4 0 (by omega)).1 (by rw [(n4 0 (by omega)).2.2.2, P2, R2]; omega) (by rw [(y4 0 (by omega)).2.2.2, m2, R2]; omega) (by omega) (by omega) (fun z3 A3 J3 F3 kn => ?_)
  have F : cF ρ (fun q => q = 9 + x.toNat ∨ q = 12 + (2 + x).toNat) z1 A1 z3 A3 := cF_trans (cF_mono F2 (fun q hq => Or.inl hq)) (cF_mono F3 (fun q hq => Or.inr hq))
  refine hQ ⟨hp, hg, by rw [← exy]; exact G1⟩ z3 A3 (ci_keep I1 F J3 (by show ¬ (_ ∨ _); omega) (fun q => by omega) (fun q => by omega) (fun i hi q => by omega) (fun i hi q => by omega) (fun i hi q => by omega) (fun i hi q => ?_)) (by rw [(F _ (by rw [c2]; omega)).1, zw1]) (ci_E_trans dd1 (ci_E_of I1 F (fun q hq => by omega) (fun y _ => by rw [(F h (by rw [a2]; omega)).1])))
  have : i = (2 + x).toNat := by omega
  rw [this]
  exact ⟨Or.inr kn, fun _ => hg1⟩
theorem wx_c11_tell {y1 y2 y3 y4 y5 : Int} (I : ci_I L K r w ρ z A h) (e1 : hz_rI y1) (e2 : hz_rI y2) (e3 : hz_rI y3) (e4 : hz_rI y4) (e5 : hz_rI y5) (G : z h 14 = 1 → sg_R K r (r h 13) σ z A) {Q : (Nat → Nat → Int) → Prop} {X : String → (Nat → Nat → Int) → Prop} (hQ : ∀ A' : Nat → Nat → Int, ci_I L K r w ρ z A' h → ci_D ρ h z A z A' → la_tell (z h 14) σ y1 y2 y3 y4 y5 0 → (∀ t, t < 2 → ∀ i, ¬ (t = (y1 - 1).toNat ∧ i = (y2 * 4 + y3).toNat) → A' (r (cw_g K (r h 4) t) 0) i = A (r (cw_g K (r h 4) t) 0) i ∧ A' (r (cw_g K (r h 4) t) 1) i = A (r (cw_g K (r h 4) t) 1) i) → 1 ≤ A' (r (cw_g K (r h 4) (y1 - 1).toNat) 1) (y2 * 4 + y3).toNat → A' (r (cw_g K (r h 4) (y1 - 1).toNat) 0) (y2 * 4 + y3).toNat * y5 = y4 * A' (r (cw_g K (r h 4) (y1 - 1).toNat) 1) (y2 * 4 + y3).toNat → (0 ≤ y2 ∧ y2 < 10) → (0 ≤ y3 ∧ y3 < 4) → Q A') (hX1 : la_tell (z h 14) σ y1 y2 y3 y4 y5 1 → X "java/lang/IndexOutOfBoundsException" A) (hX2 : la_tell (z h 14) σ y1 y2 y3 y4 y5 2 → X "java/lang/IllegalArgumentException" A) : wp_c11_tell L K z r A h y1 y2 y3 y4 y5 Q X := by
  obtain ⟨hdg, h1, h2, h3, h4, h6, h7, h8, h9⟩ := id I.1
  obtain ⟨⟨a1, a2⟩, -, -, -, -, ⟨f1, f2, f3⟩, -⟩ := id I.2.1
  have pg := (ci_g I).2
  have no : ¬ la_mv (z h 14) σ y1 y2 y3 → wp_c11_tell_21 L K z r A Q X := fun n => hX1 (Or.inl ⟨n, rfl⟩)
  refine ⟨a1, wl_c11_isPlaying I e1 (fun hp hg => ⟨by decide, fun q => absurd q (by decide), fun _ => wq_c11_sideOf I hp hg (fun F => ⟨F.1, ?_⟩)⟩) (fun n => ⟨by decide, fun _ => no (fun q => n ⟨q.1.1, q.1.2.1⟩), fun q => absurd rfl q⟩)⟩
  obtain ⟨s1, s2⟩ := (G hg).2 (y1 - 1).toNat (by omega)
  have s10 := F.2.1
  refine wl_c7_hasMove h7 F e2 e3 (fun hi hj hj4 => ⟨by decide, fun _ => ?_, fun q => absurd q (by decide)⟩) (fun n => ⟨by decide, fun q => absurd rfl q, fun _ => no (fun q => n ?_)⟩)
  · have v2 := (s2 y2.toNat (by omega)).2.1
    have yes : la_mv (z h 14) σ y1 y2 y3 := ⟨⟨hg, hp, by omega, by omega⟩, by omega, by omega⟩
    have no2 : ¬ (1 ≤ y5 ∧ y5 ≤ 9999 ∧ 0 ≤ y4 ∧ y4 ≤ y5) → wp_c11_tell_57 L K z r A Q X := fun n => hX2 (Or.inr (Or.inl ⟨yes, n, rfl⟩))
    refine ⟨e5, fun c => no2 (by omega), fun g1 => ⟨e5, fun c => no2 (by omega), fun g2 => ⟨e4, fun c => no2 (by omega), fun g3 => ⟨e4, e5, fun g4 => ?_, fun c => no2 (by omega)⟩⟩⟩⟩
    obtain ⟨g5, g6⟩ := f3 (y1 - 1).toNat (by omega)
    have W := I.2.2.2.2.2.2.1 (y1 - 1).toNat (by omega)
    refine ⟨f1, by omega, g5, wl_c9_putChance (S := fun q => q = 3 + (y1 - 1).toNat) I.2.2.1 hdg h9 g6 W (by omega) (by omega) (by omega) (by omega) (fun A' J' F' W' oth pos9 mul9 => hQ A' (ci_keep I F' J' (by show ¬ ρ (r h 13) = _; omega) (fun q => by omega) (fun q => by omega) (fun i hi q => ?_) (fun i hi q => by omega) (fun i hi q => by omega) (fun i hi q => by omega)) ⟨cF_mono F' (fun q hq => by omega), fun _ _ => rfl⟩ (Or.inr (Or.inr ⟨yes, by omega, rfl⟩)) (fun t ht i9 hn => ?_) pos9 mul9 ⟨by omega, by omega⟩ ⟨by omega, by omega⟩)⟩
    · have : i = (y1 - 1).toNat := by omega
      rw [this]
      exact W'
    · by_cases e9 : t = (y1 - 1).toNat
      · rw [e9]
        exact oth i9 (fun q => hn ⟨e9, q⟩)
      · obtain ⟨u1, u2⟩ := f3 t ht
        obtain ⟨v1, v2, -⟩ := h9 _ u1
        rw [(F' _ (by rw [v1.2.2.2, u2]; show ¬ _ = _; omega)).2, (F' _ (by rw [v2.2.2.2, u2]; show ¬ _ = _; omega)).2]
        exact ⟨rfl, rfl⟩
  · obtain ⟨⟨q1, q2, q3, q4⟩, q5, q6⟩ := q
    have v2 := (s2 y2.toNat (by omega)).2.1
    exact ⟨⟨q3, by rw [s1]; exact q4⟩, q5, by rw [v2]; exact q6⟩
end CI
