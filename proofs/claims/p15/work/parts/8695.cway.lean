/-- class and model were told the same chances -/
noncomputable def wy_R (K : Nat → cw_K) (r : Nat → Nat → Nat) (h : Nat) (A Am : Nat → Nat → Int) : Prop := ∀ t, t < 2 → ∀ i, i < 40 → 1 ≤ A (r (cw_g K (r h 4) t) 1) i ∧ 1 ≤ Am 50 (40 * t + i) ∧ A (r (cw_g K (r h 4) t) 0) i * Am 50 (40 * t + i) = Am 49 (40 * t + i) * A (r (cw_g K (r h 4) t) 1) i
/-- way t is good, with the class's game and the model's chances -/
noncomputable def ce_G (K : Nat → cw_K) (r : Nat → Nat → Nat) (h : Nat) (z A Am : Nat → Nat → Int) (t : Nat) : Prop := wy_G (fun i => Am 49 (40 * t + i)) (fun i => Am 50 (40 * t + i)) (A (r (cw_g K (r (r h 13) 1) t) 2)) (z (cw_g K (r (r h 13) 1) t) 0)
section CI
variable {L : List Nat} {K : Nat → cw_K} {r r' : Nat → Nat → Nat} {z A : Nat → Nat → Int} {w : Nat → Nat × Nat} {ρ : Nat → Nat} {S : Nat → Prop} {h g R : Nat} {σ Am : Nat → Nat → Int} {zm : Nat → Int}
theorem ce_me {t : Nat} (ht : t < 2) (G : sg_R K r (r h 13) σ z A) (M : mg_R (zm 32).toNat Am σ) : ce_G K r h z A Am t ↔ me_G zm Am t :=
  wy_G_congr ((G.2 t ht).1.trans (M.2.1 t ht).symm) (fun i hi => ((G.2 t ht).2 i (by rw [← M.2.1 t ht]; exact hi)).2.1.trans ((M.2.2 t ht).2 i (by rw [← M.2.1 t ht]; exact hi)).2.1.symm)
theorem wl_c11_isGood {p : Int} (I : ci_I L K r w ρ z A h) (hp : p = 0 ∨ p = 1) (hg : z h 14 = 1) (W9 : wy_R K r h A Am) {Q : Int → Prop} (h1 : ce_G K r h z A Am p.toNat → Q 1) (h0 : ¬ ce_G K r h z A Am p.toNat → Q 0) : wp_c11_isGood L K z r A h p Q := by
  obtain ⟨s1, s2, s3⟩ := ci_side (p := p + 1) I (by omega) hg
  rw [show p + 1 - 1 = p by omega] at s3
  obtain ⟨-, -, -, -, -, ⟨f1, f2, f3⟩, -⟩ := I.2.1
  have W := I.2.2.2.2.2.2.1 p.toNat (by omega)
  have w9 := W9 p.toNat (by omega)
  exact ⟨I.2.1.1.1, f1, by omega, (I.2.2.2.2.2.1 hg).1, s1, by omega, (f3 _ (by omega)).1, wl_c9_isGood (f := fun i => Am 49 (40 * p.toNat + i)) (g := fun i => Am 50 (40 * p.toNat + i)) I.1.2.2.2.2.2.2.1 I.1.2.2.2.2.2.2.2.2 s3 W (fun i hi => (w9 i hi).1) (fun i hi => (w9 i hi).2.1) (fun i hi => (w9 i hi).2.2) (fun G => ⟨Or.inr rfl, h1 G⟩) (fun n => ⟨Or.inl rfl, h0 n⟩)⟩
theorem wl_c11_good {y : Int} (I : ci_I L K r w ρ z A h) (hy : hz_rI y) (W9 : z h 14 = 1 → wy_R K r h A Am) {Q : Int → Prop} (hQ : ∀ x, la_good (z h 14) (ce_G K r h z A Am) y x → Q x) : wp_c11_good L K z r A h y Q := by
  refine ⟨I.2.1.1.1, wl_c11_isPlaying I hy (fun hp hg => ⟨by decide, fun _ => wl_c11_isGood I (by omega) hg (W9 hg) (fun G => ⟨by decide, fun c => absurd c (by decide), fun _ => hQ 1 (Or.inr (Or.inl ⟨⟨hg, hp⟩, G, rfl⟩))⟩) (fun n => ⟨by decide, fun _ => hQ 0 (Or.inr (Or.inr ⟨⟨hg, hp⟩, n, rfl⟩)), fun c => absurd rfl c⟩), fun c => absurd c (by decide)⟩) (fun n => ⟨by decide, fun c => absurd rfl c, fun _ => hQ (-1) (Or.inl ⟨n, rfl⟩)⟩)⟩
theorem wx_c11_expect (I : ci_I L K r w ρ z A h) (W9 : z h 14 = 1 → wy_R K r h A Am) {Q : (Nat → Nat → Int) → (Nat → Nat → Int) → Prop} {X : String → (Nat → Nat → Int) → (Nat → Nat → Int) → Prop} (hQ : (z h 14 = 1 ∧ ce_G K r h z A Am 0 ∧ ce_G K r h z A Am 1) → ∀ z' A' : Nat → Nat → Int, ci_I L K r w ρ z' A' h → z' (r (r h 0) 2) 1 = z (r (r h 0) 2) 1 → ci_E K r ρ h z A z' A' → Q z' A') (hX : ¬ (z h 14 = 1 ∧ ce_G K r h z A Am 0 ∧ ce_G K r h z A Am 1) → X "java/lang/IllegalStateException" z A) : wp_c11_expect L K z r A h Q X := by
  obtain ⟨hdg, h1, h2, h3, h4, h6, h7, h8, h9⟩ := id I.1
  obtain ⟨⟨a1, a2⟩, -, ⟨c1, c2, c3⟩, -, -, -, ⟨g1, g2, g3⟩, -, -, ⟨k1, k2⟩, ⟨l1, l2, l3⟩, -, ⟨n1, n2, n3, n4⟩, ⟨o1, o2, o3, o4⟩, -⟩ := id I.2.1
  have pg := (ci_g I).2
  have gg := I.2.2.2.2.1
  have no : ¬ (z h 14 = 1 ∧ ce_G K r h z A Am 0 ∧ ce_G K r h z A Am 1) → wp_c11_expect_23 L K z r A Q X := hX
  refine ⟨a1, by omega, fun c => no (fun q => by have := q.1; omega), fun c => ?_⟩
  have hg : z h 14 = 1 := by omega
  refine wl_c11_isGood (p := 0) I (Or.inl rfl) hg (W9 hg) (fun G1 => ⟨by decide, fun q => absurd q (by decide), fun _ => ?_⟩) (fun n1 => ⟨by decide, fun _ => no (fun q => n1 q.2.1), fun q => absurd rfl q⟩)
  refine wl_c11_isGood (p := 1) I (Or.inr rfl) hg (W9 hg) (fun G2 => ⟨by decide, fun _ => ?_, fun q => absurd q (by decide)⟩) (fun n2 => ⟨by decide, fun q => absurd rfl q, fun _ => no (fun q => n2 q.2.2)⟩)
  refine we_c11_spreadWay I (Or.inl rfl) hg (fun z1 A1 I1 zh1 zw1 dd1 => ?_)
  have hg1 : z1 h 14 = 1 := by rw [zh1]; exact hg
  refine we_c11_spreadWay I1 (Or.inr rfl) hg1 (fun z2 A2 I2 zh2 zw2 dd2 => ⟨g1, by omega, by omega, k1, ?_⟩)
  have hg2 : z2 h 14 = 1 := by rw [zh2]; exact hg1
  have hF2 := I2.2.2.2.2.2.1 hg2
  obtain ⟨p1, p2⟩ := g3 0 (by omega)
  obtain ⟨q1, q2⟩ := g3 1 (by omega)
  obtain ⟨R1, R2⟩ := l3 1 (by omega)
  have J2 := I2.2.2.1
  have eO : ∀ t a, cw_O L K t a → ¬ t = 11 → lp_U ρ h 99 a = ρ a := fun t a ha ht => lp_U_other (cw_O_ne ha a1 ht)
  obtain ⟨-, h1', h2', h3', h4', h6', h7', h8', h9'⟩ := ci_S1_h (fun a ha => (J2.1.1.1 a ha).1) a1 I.1
  show wp_c6_meet L K z2 r A2 (r h 8) (r h 13) (cw_g K (r h 5) 0) (cw_g K (r h 5) 1) (r h 11) _
  refine wq_c6_meet (ρ := lp_U ρ h 99) (S := fun q => q = 0 ∨ q = 11) J2 h1' h2' h3' h6' h7' k1 (by rw [eO _ _ k1 (by decide), k2]; exact Or.inr rfl) hF2 (by rw [eO _ _ hF2.1 (by decide)]; omega) p1 (by rw [eO _ _ p1 (by decide), p2]; omega) (I2.2.2.2.2.2.2.2.1 0 (by omega)) q1 (by rw [eO _ _ q1 (by decide), q2]; omega) (I2.2.2.2.2.2.2.2.1 1 (by omega)) n1 n2 (by rw [eO _ _ n1 (by decide), n4, a2]; exact Or.inl rfl) (by rw [eO _ _ n1 (by decide), eO _ _ k1 (by decide), n4, a2, k2]; decide) (fun z3 A3 J3 F3 => ?_)
  have zh3 : z3 h = z2 h := (F3 h (by rw [lp_U_same]; omega)).1
  have F3r : cF ρ (fun q => q = 0 ∨ q = 11) z2 A2 z3 A3 := fun a ha => F3 a (by
    have : a ≠ h := fun e => ha (by rw [e, a2]; exact Or.inl rfl)
    rw [lp_U_other this]
    exact ha)
  obtain ⟨⟨y1, y2, y3, y4⟩, -⟩ := h3 _ p1
  obtain ⟨⟨x1, x2, x3, x4⟩, -⟩ := h3 _ q1
  have T0 := I2.2.2.2.2.2.2.2.1 0 (by omega) 0 (by omega)
  have T1 := I2.2.2.2.2.2.2.2.1 1 (by omega) 0 (by omega)
  have e0 : z3 (cw_g K (r (cw_g K (r h 5) 0) 0) 0) = z2 (cw_g K (r (cw_g K (r h 5) 0) 0) 0) := (F3r _ (by rw [(y4 0 (by omega)).2.2.2, p2]; omega)).1
  have e1 : z3 (cw_g K (r (cw_g K (r h 5) 1) 0) 0) = z2 (cw_g K (r (cw_g K (r h 5) 1) 0) 0) := (F3r _ (by rw [(x4 0 (by omega)).2.2.2, q2]; omega)).1
  refine ⟨by omega, p1, y1, by show (0 : Int) ≤ 0 ∧ (0 : Int) < (cw_n K (r (cw_g K (r h 5) 0) 0) : Int); omega, by omega, q1, x1, by show (0 : Int) ≤ 0 ∧ (0 : Int) < (cw_n K (r (cw_g K (r h 5) 1) 0) : Int); omega, o1, ?_⟩
  show wp_c0_putProduct L K z3 r A3 (r h 12) (cw_g K (r (cw_g K (r h 5) 0) 0) 0) (cw_g K (r (cw_g K (r h 5) 1) 0) 0) _
  have na : ∀ b, cw_O L K 0 b → ρ b = 5 ∨ ρ b = 6 → b ≠ r h 12 := fun b hb e q => by
    rw [q, o4, a2] at e
    omega
  refine wq_c0_putProduct J3.1 o1 (y4 0 (by omega)).1 (x4 0 (by omega)).1 (na _ (y4 0 (by omega)).1 (by rw [(y4 0 (by omega)).2.2.2, p2]; omega)) (na _ (x4 0 (by omega)).1 (by rw [(x4 0 (by omega)).2.2.2, q2]; omega)) (by rw [e0, e1]; omega) (fun z4 A4 b4 Y4 _ _ => ⟨l1, by omega, hF2.1, R1, ?_⟩)
  have J4 : cJ L K r z4 A4 := cJ_Y J3 o1 b4 Y4
  show wp_c4_put L K z4 r A4 (cw_g K (r h 9) 1) (r h 11) (r h 12) (z4 (r h 13) 2) _
  have ls := (J4.1.2 _ n1).1
  have lw := (J4.1.2 _ o1).1
  refine wq_c4_put (S := fun q => q = 13) J4 h1 h4 R1 R2 n1 o1 (by rw [n4, a2, R2]; decide) (by rw [o4, a2, R2]; decide) (by omega) (by omega) (fun z5 A5 J5 F5 kn => ?_)
  have F4 : cF ρ (fun q => q = 0) z3 A3 z4 A4 := cF_Y h1 o1 (by rw [o4]; exact a2) Y4
  have F : cF ρ (fun q => q = 0 ∨ q = 11 ∨ q = 13) z2 A2 z5 A5 := cF_trans (cF_trans (cF_mono F3r (fun q hq => by omega)) (cF_mono F4 (fun q hq => Or.inl hq))) (cF_mono F5 (fun q hq => by omega))
  have zh5 : z5 h = z2 h := by rw [(F5 h (by rw [a2]; omega)).1, Y4.1 h (cw_O_ne a1 o1 (by decide)), zh3]
  refine hQ ⟨hg, G1, G2⟩ z5 A5 (ci_keep I2 F J5 (by show ¬ (_ ∨ _ ∨ _); omega) (fun _ => by rw [zh5]; exact ⟨rfl, I2.2.2.2.2.2.2.2.2.2.2.1, I2.2.2.2.2.2.2.2.2.2.2.2⟩) (fun q => by omega) (fun i hi q => by omega) (fun i hi q => by omega) (fun i hi q => by omega) (fun i hi q => ?_)) (by rw [(F _ (by rw [c2]; omega)).1, zw2, zw1]) (ci_E_trans (ci_E_trans dd1 dd2) (ci_E_of I2 F (fun q hq => by omega) (fun y _ => by rw [zh5]) (ci_k_of I2 F (fun q hq => by omega))))
  have : i = 1 := by omega
  subst this
  exact ⟨Or.inr kn, fun _ => hg2⟩
theorem wx_c11_tell {y1 y2 y3 y4 y5 : Int} (I : ci_I L K r w ρ z A h) (e1 : hz_rI y1) (e2 : hz_rI y2) (e3 : hz_rI y3) (e4 : hz_rI y4) (e5 : hz_rI y5) (G : z h 14 = 1 → sg_R K r (r h 13) σ z A) {Q : (Nat → Nat → Int) → Prop} {X : String → (Nat → Nat → Int) → Prop} (hQ : ∀ A' : Nat → Nat → Int, ci_I L K r w ρ z A' h → ci_D ρ h z A z A' → la_tell (z h 14) σ y1 y2 y3 y4 y5 0 → (∀ t, t < 2 → ∀ i, ¬ (t = (y1 - 1).toNat ∧ i = (y2 * 4 + y3).toNat) → A' (r (cw_g K (r h 4) t) 0) i = A (r (cw_g K (r h 4) t) 0) i ∧ A' (r (cw_g K (r h 4) t) 1) i = A (r (cw_g K (r h 4) t) 1) i) → 1 ≤ A' (r (cw_g K (r h 4) (y1 - 1).toNat) 1) (y2 * 4 + y3).toNat → A' (r (cw_g K (r h 4) (y1 - 1).toNat) 0) (y2 * 4 + y3).toNat * y5 = y4 * A' (r (cw_g K (r h 4) (y1 - 1).toNat) 1) (y2 * 4 + y3).toNat → (0 ≤ y2 ∧ y2 < 10) → ((0 ≤ y3 ∧ y3 < 4) ∧ Nat.gcd (A' (r (cw_g K (r h 4) (y1 - 1).toNat) 0) (y2 * 4 + y3).toNat).natAbs (A' (r (cw_g K (r h 4) (y1 - 1).toNat) 1) (y2 * 4 + y3).toNat).natAbs = 1 ∧ ∀ i, i < 2 → A' (r (cw_g K (r h 7) i) 0) = A (r (cw_g K (r h 7) i) 0)) → Q A') (hX1 : la_tell (z h 14) σ y1 y2 y3 y4 y5 1 → X "java/lang/IndexOutOfBoundsException" A) (hX2 : la_tell (z h 14) σ y1 y2 y3 y4 y5 2 → X "java/lang/IllegalArgumentException" A) : wp_c11_tell L K z r A h y1 y2 y3 y4 y5 Q X := by
  obtain ⟨hdg, h1, h2, h3, h4, h6, h7, h8, h9⟩ := id I.1
  obtain ⟨⟨a1, a2⟩, -, -, -, -, ⟨f1, f2, f3⟩, -, -, ⟨j1, j2, j3⟩, -⟩ := id I.2.1
  have pg := (ci_g I).2
  have no : ¬ la_mv (z h 14) σ y1 y2 y3 → wp_c11_tell_21 L K z r A Q X := fun n => hX1 (Or.inl ⟨n, rfl⟩)
  refine ⟨a1, wl_c11_isPlaying I e1 (fun hp hg => ⟨by decide, fun q => absurd q (by decide), fun _ => wq_c11_sideOf I hp hg (fun F => ⟨F.1, ?_⟩)⟩) (fun n => ⟨by decide, fun _ => no (fun q => n ⟨q.1.1, q.1.2.1⟩), fun q => absurd rfl q⟩)⟩
  obtain ⟨s1, s2⟩ := (G hg).2 (y1 - 1).toNat (by omega)
  have s10 := F.2.1
  refine wl_c7_hasMove h7 F e2 e3 (fun hi hj hj4 => ⟨by decide, fun _ => ?_, fun q => absurd q (by decide)⟩) (fun n => ⟨by decide, fun q => absurd rfl q, fun _ => no (fun q => n ?_)⟩)
  · have v2 := (s2 y2.toNat (by omega)).2.1
    have yes : la_mv (z h 14) σ y1 y2 y3 := ⟨⟨hg, hp, by omega, by omega⟩, by omega, by omega⟩
    have no2 : ¬ (1 ≤ y5 ∧ y5 ≤ 9999 ∧ 0 ≤ y4 ∧ y4 ≤ y5) → wp_c11_tell_57 L K z r A Q X := fun n => hX2 (Or.inr (Or.inl ⟨yes, n, rfl⟩))
    refine ⟨e5, fun c => no2 (by omega), fun g1 => ⟨e5, fun c => no2 (by omega), fun g2 => ⟨e4, fun c => no2 (by omega), fun g3 => ⟨e4, e5, fun g4 => ?_, fun c => no2 (by omega)⟩⟩⟩⟩
    obtain ⟨g5, g6⟩ := f3 (y1 - 1).toNat (by omega)
    have W := I.2.2.2.2.2.2.1 (y1 - 1).toNat (by omega)
    refine ⟨f1, by omega, g5, wz_c9_putChance (S := fun q => q = 3 + (y1 - 1).toNat) I.2.2.1 hdg h9 g6 W (by omega) (by omega) (by omega) (by omega) (fun A' J' F' W' oth pos9 mul9 cop9 => hQ A' (ci_keep I F' J' (by show ¬ ρ (r h 13) = _; omega) (fun q => by omega) (fun q => by omega) (fun i hi q => ?_) (fun i hi q => by omega) (fun i hi q => by omega) (fun i hi q => by omega)) ⟨cF_mono F' (fun q hq => by omega), fun _ _ => rfl⟩ (Or.inr (Or.inr ⟨yes, by omega, rfl⟩)) (fun t ht i9 hn => ?_) pos9 mul9 ⟨by omega, by omega⟩ ⟨⟨by omega, by omega⟩, cop9, fun i9 hi9 => (F' _ (by rw [(h6 _ (j3 i9 hi9).1).1.2.2.2, (j3 i9 hi9).2]; show ¬ _ = _; omega)).2⟩)⟩
    · have : i = (y1 - 1).toNat := by omega
      rw [this]
      exact W'
    · by_cases e9 : t = (y1 - 1).toNat
      · rw [e9]
        exact oth i9 (fun q => hn ⟨e9, q⟩)
      · obtain ⟨u1, u2⟩ := f3 t ht
        obtain ⟨v1, v2, -⟩ := h9 _ u1
        rw [(F' _ (by rw [v1.2.2.2, u2]; show ¬ _ = _; omega)).2, (F' _ (by rw [v2.2.2.2, u2]; show ¬ _ = _; omega)).2]
        exact ⟨rfl, rfl⟩
  · obtain ⟨⟨q1, q2, q3, q4⟩, q5, q6⟩ := q
    have v2 := (s2 y2.toNat (by omega)).2.1
    exact ⟨⟨q3, by rw [s1]; exact q4⟩, q5, by rw [v2]; exact q6⟩
end CI
