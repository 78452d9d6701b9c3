section CZ
variable {L : List Nat} {K : Nat → cw_K} {r : Nat → Nat → Nat} {z A : Nat → Nat → Int} {w : Nat → Nat × Nat} {ρ : Nat → Nat} {S : Nat → Prop} {V m a b c h : Nat}
theorem cz_I_keepF (h1 : cg_1 L K r w ρ) (h8 : cg_8 L K r w ρ) (hV : cw_O L K 8 V) {z' A' : Nat → Nat → Int} (hI : cz_I L K r z A V m a b c) (hF : cF ρ S z A z' A') (hS : ¬ S (ρ V)) : cz_I L K r z' A' V m a b c := by
  obtain ⟨hb, he, ⟨T, β, γ, hB, C1, C2, C3, C4, C5, C6⟩, r1, r2⟩ := hI
  obtain ⟨⟨c1, c2, c3, c4⟩, ⟨u1, u2, u3, u4⟩, ⟨v1, v2, v3, v4⟩, -, ⟨k1, k2, k3, k4⟩, -⟩ := h8 V hV
  refine ⟨hb, by rw [(hF V hS).1]; exact he, ⟨T, β, γ, hB, C1, C2, by rw [(cF_big h1 hF k1 (by rw [k4]; exact hS)).2.1]; exact C3, fun i j hi hj => ?_, C5, C6⟩, by rw [(hF _ (by rw [u4]; exact hS)).2]; exact r1, by rw [(hF _ (by rw [v4]; exact hS)).2]; exact r2⟩
  obtain ⟨g1, g2, g3, g4⟩ := c4 (i * 30 + j) (by omega)
  rw [(cF_big h1 hF g1 (by rw [g4]; exact hS)).2.1]
  exact C4 i j hi hj
/-- the regions may tell the HiddenMoves itself from its numbers -/
theorem ci_S1_h (hA : ∀ a, cw_O L K 0 a → cw_A L K 0 (r a 0)) (hO : cw_O L K 11 h) (hS : ci_S1 L K r w ρ) : ci_S1 L K r w (lp_U ρ h 99) := by
  obtain ⟨hdg, h1, h2, h3, h4, h6, h7, h8, h9⟩ := hS
  have eO : ∀ t a, cw_O L K t a → ¬ t = 11 → lp_U ρ h 99 a = ρ a := fun t a ha ht => lp_U_other (cw_O_ne ha hO ht)
  have eA : ∀ t a, cw_A L K t a → lp_U ρ h 99 a = ρ a := fun t a ha => lp_U_other (Ne.symm (cw_OA_ne hO ha))
  have kA : ∀ c t n a k, cw_O L K c a → ¬ c = 11 → cg_A L K r w ρ t n a k → cg_A L K r w (lp_U ρ h 99) t n a k := fun c t n a k ha hc q => ⟨q.1, q.2.1, q.2.2.1, by rw [eA _ _ q.1, eO _ _ ha hc]; exact q.2.2.2⟩
  have kO : ∀ c t a k, cw_O L K c a → ¬ c = 11 → ¬ t = 11 → cg_O L K r w ρ t a k → cg_O L K r w (lp_U ρ h 99) t a k := fun c t a k ha hc ht q => ⟨q.1, q.2.1, by rw [eO _ _ q.1 ht, eO _ _ ha hc]; exact q.2.2⟩
  have kB : ∀ c n a k, cw_O L K c a → ¬ c = 11 → cg_B L K r w ρ n a k → cg_B L K r w (lp_U ρ h 99) n a k := fun c n a k ha hc q => ⟨q.1, q.2.1, q.2.2.1, by rw [eO _ _ q.1 (by decide), eO _ _ ha hc]; exact q.2.2.2⟩
  have kL : ∀ c N n a k, cw_O L K c a → ¬ c = 11 → cg_L L K r w ρ N n a k → cg_L L K r w (lp_U ρ h 99) N n a k := fun c N n a k ha hc q => ⟨q.1, q.2.1, q.2.2.1, fun i hi => by
    have q9 := q.2.2.2 i hi
    exact ⟨q9.1, q9.2.1, q9.2.2.1, by rw [eO _ _ q9.1 (by decide), eO _ _ ha hc]; exact q9.2.2.2⟩⟩
  refine ⟨hdg, ⟨fun a ha => ?_, fun a ha => kB 1 _ _ _ ha (by decide) (h1.2 a ha)⟩, fun a ha => ?_, fun a ha => ?_, fun a ha => ?_, fun a ha => ?_, fun a ha => ?_, fun a ha => ?_, fun a ha => ?_⟩
  · rw [eA _ _ (hA a ha), eO _ _ ha (by decide)]; exact h1.1 a ha
  · have q := h2 a ha
    refine ⟨kA 2 _ _ _ _ ha (by decide) q.1, ⟨q.2.1.1, q.2.1.2.1, fun i hi => ?_⟩, ⟨q.2.2.1, q.2.2.2.1, fun i hi => ?_⟩⟩
    · have q9 := q.2.1.2.2 i hi
      exact ⟨q9.1, q9.2.1, by rw [eO _ _ q9.1 (by decide), eO _ _ ha (by decide)]; exact q9.2.2⟩
    · have q9 := q.2.2.2.2 i hi
      exact ⟨q9.1, q9.2.1, q9.2.2.1, by rw [eA _ _ q9.1, eO _ _ ha (by decide)]; exact q9.2.2.2⟩
  · have q := h3 a ha
    exact ⟨kL 3 _ _ _ _ ha (by decide) q.1, kB 3 _ _ _ ha (by decide) q.2⟩
  · have q := h4 a ha
    exact ⟨kB 4 _ _ _ ha (by decide) q.1, kB 4 _ _ _ ha (by decide) q.2.1, kB 4 _ _ _ ha (by decide) q.2.2.1, kB 4 _ _ _ ha (by decide) q.2.2.2.1, kO 4 _ _ _ ha (by decide) (by decide) q.2.2.2.2⟩
  · have q := h6 a ha
    exact ⟨kA 6 _ _ _ _ ha (by decide) q.1, kA 6 _ _ _ _ ha (by decide) q.2.1, kL 6 _ _ _ _ ha (by decide) q.2.2.1, kB 6 _ _ _ ha (by decide) q.2.2.2.1, kB 6 _ _ _ ha (by decide) q.2.2.2.2⟩
  · have q := h7 a ha
    exact ⟨kA 7 _ _ _ _ ha (by decide) q.1, kA 7 _ _ _ _ ha (by decide) q.2.1, kA 7 _ _ _ _ ha (by decide) q.2.2.1, kA 7 _ _ _ _ ha (by decide) q.2.2.2.1, kA 7 _ _ _ _ ha (by decide) q.2.2.2.2.1, kA 7 _ _ _ _ ha (by decide) q.2.2.2.2.2⟩
  · have q := h8 a ha
    exact ⟨kL 8 _ _ _ _ ha (by decide) q.1, kA 8 _ _ _ _ ha (by decide) q.2.1, kA 8 _ _ _ _ ha (by decide) q.2.2.1, kA 8 _ _ _ _ ha (by decide) q.2.2.2.1, kB 8 _ _ _ ha (by decide) q.2.2.2.2.1, kB 8 _ _ _ ha (by decide) q.2.2.2.2.2.1, kB 8 _ _ _ ha (by decide) q.2.2.2.2.2.2.1, kO 8 _ _ _ ha (by decide) (by decide) q.2.2.2.2.2.2.2⟩
  · have q := h9 a ha
    exact ⟨kA 9 _ _ _ _ ha (by decide) q.1, kA 9 _ _ _ _ ha (by decide) q.2.1, kA 9 _ _ _ _ ha (by decide) q.2.2⟩
theorem wq_c7_hasMove {s : Nat} {i j : Int} (h7 : cg_7 L K r w ρ) (F : cs_F L K r z A s) (hi : hz_rI i) (hj : hz_rI j) {Q : Int → Prop} (h1 : (0 ≤ i ∧ i < z s 0) → (0 ≤ j ∧ j < 4) → Q 1) (h0 : Q 0) : wp_c7_hasMove L K z r A s i j Q := by
  obtain ⟨f1, f2, f3, f4⟩ := F
  obtain ⟨-, ⟨b1, b2, -, -⟩, -, -, -, -⟩ := h7 s f1
  have no : wp_c7_hasMove_26 L K z r A Q := ⟨Or.inl rfl, h0⟩
  refine ⟨f1, wq_c7_hasSet f1 f2 hi (fun hi2 => ⟨by decide, fun q => absurd q (by decide), fun _ => ⟨hj, fun _ => no, fun c => ⟨b1, by omega, hj, ?_, fun _ => no, fun c2 => ⟨Or.inr rfl, ?_⟩⟩⟩⟩) ⟨by decide, fun _ => no, fun q => absurd rfl q⟩⟩
  · have := (f4 i.toNat (by omega)).1
    omega
  · have := (f4 i.toNat (by omega)).1
    exact h1 hi2 (by omega)
theorem wq_c11_tell {y1 y2 y3 y4 y5 : Int} (I : ci_I L K r w ρ z A h) (e1 : hz_rI y1) (e2 : hz_rI y2) (e3 : hz_rI y3) (e4 : hz_rI y4) (e5 : hz_rI y5) {Q : (Nat → Nat → Int) → Prop} {X : String → (Nat → Nat → Int) → Prop} (hQ : ∀ A' : Nat → Nat → Int, ci_I L K r w ρ z A' h → Q A') (hX1 : X "java/lang/IndexOutOfBoundsException" A) (hX2 : X "java/lang/IllegalArgumentException" A) : wp_c11_tell L K z r A h y1 y2 y3 y4 y5 Q X := by
  obtain ⟨hdg, h1, h2, h3, h4, h6, h7, h8, h9⟩ := id I.1
  obtain ⟨⟨a1, a2⟩, -, -, -, -, ⟨f1, f2, f3⟩, -⟩ := id I.2.1
  have pg := (ci_g I).2
  have no : wp_c11_tell_21 L K z r A Q X := hX1
  have no2 : wp_c11_tell_57 L K z r A Q X := hX2
  refine ⟨a1, wq_c11_isPlaying I e1 (fun hp hg => ⟨by decide, fun q => absurd q (by decide), fun _ => wq_c11_sideOf I hp hg (fun F => ⟨F.1, wq_c7_hasMove h7 F e2 e3 (fun hi hj => ⟨by decide, fun _ => ⟨e5, fun _ => no2, fun g1 => ⟨e5, fun _ => no2, fun g2 => ⟨e4, fun _ => no2, fun g3 => ⟨e4, e5, fun g4 => ?_, fun _ => no2⟩⟩⟩⟩, fun q => absurd q (by decide)⟩) ⟨by decide, fun q => absurd rfl q, fun _ => no⟩⟩)⟩) ⟨by decide, fun _ => no, fun q => absurd rfl q⟩⟩
  obtain ⟨g5, g6⟩ := f3 (y1 - 1).toNat (by omega)
  have W := I.2.2.2.2.2.2.1 (y1 - 1).toNat (by omega)
  have s10 := F.2.1
  refine ⟨f1, by omega, g5, wq_c9_putChance (S := fun q => q = 3 + (y1 - 1).toNat) I.2.2.1 hdg h9 g6 W (by omega) (by omega) (by omega) (by omega) (fun A' J' F' W' => hQ A' (ci_keep I F' J' (by show ¬ ρ (r h 13) = _; omega) (fun q => by omega) (fun q => by omega) (fun i hi q => ?_) (fun i hi q => by omega) (fun i hi q => by omega) (fun i hi q => by omega)))⟩
  have : i = (y1 - 1).toNat := by omega
  rw [this]
  exact W'
theorem wq_c11_spreadWay {p : Int} (I : ci_I L K r w ρ z A h) (hp : p = 0 ∨ p = 1) (hg : z h 14 = 1) {Q : (Nat → Nat → Int) → (Nat → Nat → Int) → Prop} (hQ : ∀ z' A' : Nat → Nat → Int, ci_I L K r w ρ z' A' h → z' h = z h → z' (r (r h 0) 2) = z (r (r h 0) 2) → Q z' A') : wp_c11_spreadWay L K z r A h p Q := by
  obtain ⟨hdg, h1, h2, h3, h4, h6, h7, h8, h9⟩ := id I.1
  obtain ⟨⟨a1, a2⟩, -, ⟨c1, c2, c3⟩, -, -, ⟨f1, f2, f3⟩, ⟨g1, g2, g3⟩, -⟩ := id I.2.1
  have pg := (ci_g I).2
  have hF := I.2.2.2.2.2.1 hg
  obtain ⟨s1, s2, s3⟩ := ci_side (p := p + 1) I (by omega) hg
  rw [show p + 1 - 1 = p by omega] at s3
  have sS := ((h2 _ hF.1).2.1.2.2 p.toNat (by omega)).2.2
  obtain ⟨k1, k2⟩ := f3 p.toNat (by omega)
  obtain ⟨m1, m2⟩ := g3 p.toNat (by omega)
  refine ⟨a1, f1, by omega, hF.1, s1, by omega, g1, by omega, k1, wq_c9_spread (S := fun q => q = 3 + p.toNat ∨ q = 5 + p.toNat) I.2.2.1 hdg h1 h3 h7 h9 s3 (I.2.2.2.2.2.2.1 p.toNat (by omega)) (Or.inl k2) (by rw [sS]; show ¬ (_ ∨ _); omega) m1 (Or.inr m2) (by omega) (I.2.2.2.2.2.2.2.1 p.toNat (by omega)) (fun z' A' J' F' W' T' => hQ z' A' (ci_keep I F' J' (by show ¬ (_ ∨ _); omega) (fun q => by omega) (fun q => by omega) (fun i hi q => ?_) (fun i hi q => ?_) (fun i hi q => by omega) (fun i hi q => by omega)) (F' h (by rw [a2]; omega)).1 (F' _ (by rw [c2]; omega)).1)⟩
  · have : i = p.toNat := by omega
    rw [this]
    exact W'
  · have : i = p.toNat := by omega
    rw [this]
    exact T'
theorem wq_c11_solve (I : ci_I L K r w ρ z A h) {Q : (Nat → Nat → Int) → (Nat → Nat → Int) → Prop} {X : String → (Nat → Nat → Int) → (Nat → Nat → Int) → Prop} (hQ : ∀ z' A' : Nat → Nat → Int, ci_I L K r w ρ z' A' h → z' (r (r h 0) 2) 1 = z (r (r h 0) 2) 1 → Q z' A') (hX : X "java/lang/IllegalStateException" z A) : wp_c11_solve L K z r A h Q X := by
  obtain ⟨hdg, h1, h2, h3, h4, h6, h7, h8, h9⟩ := id I.1
  obtain ⟨⟨a1, a2⟩, -, ⟨c1, c2, c3⟩, -, ⟨v1, v2⟩, -, -, ⟨i1, i2, i3⟩, -, -, ⟨l1, l2, l3⟩, -⟩ := id I.2.1
  have pg := (ci_g I).2
  have g1 := I.2.2.2.2.1
  obtain ⟨p1, p2⟩ := i3 0 (by omega)
  obtain ⟨q1, q2⟩ := i3 1 (by omega)
  obtain ⟨R1, R2⟩ := l3 0 (by omega)
  refine ⟨a1, by omega, fun c => ?_, fun _ => hX⟩
  have hg : z h 14 = 1 := by omega
  have hF := I.2.2.2.2.2.1 hg
  refine ⟨v1, wq_c8_work (S := fun q => q = 2) I.2.2.1 hdg h1 h2 h7 h8 v1 v2 hF (by show ¬ ρ (r h 13) = 2; omega) (fun z1 A1 J1 F1 hI1 => ⟨i1, by omega, by omega, ?_⟩)⟩
  obtain ⟨m9, a9, b9, c9, hI1⟩ := hI1
  show wp_c8_handOver L K z1 r A1 (r h 3) (cw_g K (r h 6) 0) (cw_g K (r h 6) 1) _
  refine wq_c8_handOver (S := fun q => q = 7 ∨ q = 8) J1 h1 h3 h8 v1 hI1 p1 q1 (Or.inl p2) (Or.inr q2) (fun e => by rw [e] at p2; omega) (by rw [v2]; omega) (fun z2 A2 J2 F2 M2 N2 => ⟨l1, by omega, ?_⟩)
  have hI2 := cz_I_keepF h1 h8 v1 hI1 F2 (by rw [v2]; omega)
  refine wq_c8_top (S := fun q => q = 2) J2 h1 h8 v1 v2 hI2 (fun z3 A3 J3 F3 lt3 => ⟨by omega, p1, (h3 _ p1).1.1, by have := (h3 _ p1).1.2.1; show (0 : Int) ≤ 0 ∧ (0 : Int) < (cw_n K (r (cw_g K (r h 6) 0) 0) : Int); omega, hF.1, R1, ?_⟩)
  show wp_c4_put L K z3 r A3 (cw_g K (r h 9) 0) (r (r h 3) 10) (cw_g K (r (cw_g K (r h 6) 0) 0) 0) (z3 (r h 13) 2) _
  obtain ⟨⟨y1, y2, y3, y4⟩, -⟩ := h3 _ p1
  obtain ⟨⟨x1, x2, x3, x4⟩, -⟩ := h3 _ q1
  obtain ⟨-, -, -, -, -, ⟨t1, t2, t3, t4⟩, -, -⟩ := h8 _ v1
  have lp := (J3.1.2 _ (y4 0 (by omega)).1).1
  have lq := (y4 0 (by omega)).2.1
  refine wq_c4_put (S := fun q => q = 12) J3 h1 h4 R1 R2 t1 (y4 0 (by omega)).1 (by rw [t4, v2, R2]; decide) (by rw [(y4 0 (by omega)).2.2.2, p2, R2]; decide) lt3 (by omega) (fun z4 A4 J4 F4 kn => ?_)
  have F : cF ρ (fun q => q = 2 ∨ q = 7 ∨ q = 8 ∨ q = 12) z A z4 A4 := cF_trans (cF_trans (cF_trans (cF_mono F1 (fun q hq => Or.inl hq)) (cF_mono F2 (fun q hq => by omega))) (cF_mono F3 (fun q hq => Or.inl hq))) (cF_mono F4 (fun q hq => by omega))
  have F34 : cF ρ (fun q => q = 2 ∨ q = 12) z2 A2 z4 A4 := cF_trans (cF_mono F3 (fun q hq => Or.inl hq)) (cF_mono F4 (fun q hq => Or.inr hq))
  refine hQ z4 A4 (ci_keep I F J4 (by show ¬ (_ ∨ _ ∨ _ ∨ _); omega) (fun q => by omega) (fun q => by omega) (fun i hi q => by omega) (fun i hi q => by omega) (fun i hi q => ?_) (fun i hi q => ?_)) (by rw [(F _ (by rw [c2]; omega)).1])
  · have : i = 0 ∨ i = 1 := by omega
    rcases this with rfl | rfl
    · intro x hx
      rw [(cF_big h1 F34 (y4 x hx).1 (by rw [(y4 x hx).2.2.2, p2]; omega)).1]
      exact M2 x hx
    · intro x hx
      rw [(cF_big h1 F34 (x4 x hx).1 (by rw [(x4 x hx).2.2.2, q2]; omega)).1]
      exact N2 x hx
  · have : i = 0 := by omega
    subst this
    exact ⟨Or.inr kn, fun _ => hg⟩
theorem cT_M_work : 100000000000000000 * (4294967296 : Int) ^ 12 < 4294967296 ^ 32 := by decide +kernel
theorem wq_c11_judge {y : Int} (I : ci_I L K r w ρ z A h) (hy : hz_rI y) {Q : (Nat → Nat → Int) → (Nat → Nat → Int) → Prop} {X : String → (Nat → Nat → Int) → (Nat → Nat → Int) → Prop} (hQ : ∀ z' A' : Nat → Nat → Int, ci_I L K r w ρ z' A' h → z' (r (r h 0) 2) 1 = z (r (r h 0) 2) 1 → Q z' A') (hX1 : X "java/lang/IllegalStateException" z A) (hX2 : X "java/lang/IllegalArgumentException" z A) : wp_c11_judge L K z r A h y Q X := by
  obtain ⟨hdg, h1, h2, h3, h4, h6, h7, h8, h9⟩ := id I.1
  obtain ⟨⟨a1, a2⟩, -, ⟨c1, c2, c3⟩, -, -, -, ⟨g1, g2, g3⟩, -, ⟨j1, j2, j3⟩, -, ⟨l1, l2, l3⟩, -⟩ := id I.2.1
  have pg := (ci_g I).2
  have gg := I.2.2.2.2.1
  have no : wp_c11_judge_36 L K z r A Q X := hX1
  refine wq_c11_isPlayer hy (fun hp => ⟨by decide, fun _ x ex => ⟨a1, by omega, fun _ => no, fun c => ?_⟩, fun q => absurd q (by decide)⟩) (fun _ => ⟨by decide, fun q => absurd rfl q, fun _ => hX2⟩)
  have hg : z h 14 = 1 := by omega
  have hx : x = 0 ∨ x = 1 := by omega
  refine wq_c11_isGood I hx hg (fun v hv => ⟨by omega, fun _ => ?_, fun _ => no⟩)
  refine wq_c11_spreadWay I hx hg (fun z1 A1 I1 zh1 zw1 => ⟨j1, by omega, ?_⟩)
  have hg1 : z1 h 14 = 1 := by rw [zh1]; exact hg
  have hF1 := I1.2.2.2.2.2.1 hg1
  obtain ⟨P1, P2⟩ := j3 x.toNat (by omega)
  obtain ⟨m1, m2⟩ := g3 x.toNat (by omega)
  obtain ⟨R1, R2⟩ := l3 (2 + x).toNat (by omega)
  have T1 := I1.2.2.2.2.2.2.2.1 x.toNat (by omega)
  have M1 := cm_T_M I1.2.2.1 h3 m1 T1
  refine ⟨g1, by omega, P1, ?_⟩
  refine wq_c6_work (S := fun q => q = 9 + x.toNat) (M := 4294967296 ^ 12) I1.2.2.1 hdg h1 h2 h3 h6 h7 P1 P2 hF1 (by show ¬ ρ (r h 13) = _; omega) (by omega) m1 (by rw [m2]; omega) M1 (Int.le_of_lt (Int.pow_pos (by decide))) cT_M_work (fun z2 A2 J2 F2 => ⟨l1, by omega, by omega, ?_⟩)
  obtain ⟨⟨y1, y2, y3, y4⟩, -⟩ := h3 _ m1
  obtain ⟨-, -, ⟨n1, n2, n3, n4⟩, -, -⟩ := h6 _ P1
  refine wq_c6_worth h6 P1 ⟨by omega, m1, y1, by omega, hF1.1, R1, ?_⟩
  show wp_c4_put L K z2 r A2 (cw_g K (r h 9) (2 + x).toNat) (cw_g K (r (cw_g K (r h 7) x.toNat) 2) 0) (cw_g K (r (cw_g K (r h 5) x.toNat) 0) 0) (z2 (r h 13) 2) _
  have lg := (J2.1.2 _ (n4 0 (by omega)).1).1
  have lp := (J2.1.2 _ (y4 0 (by omega)).1).1
  have ln := (n4 0 (by omega)).2.1
  have lq := (y4 0 (by omega)).2.1
  refine wq_c4_put (S := fun q => q = 12 + (2 + x).toNat) J2 h1 h4 R1 R2 (n4 0 (by omega)).1 (y4 0 (by omega)).1 (by rw [(n4 0 (by omega)).2.2.2, P2, R2]; omega) (by rw [(y4 0 (by omega)).2.2.2, m2, R2]; omega) (by omega) (by omega) (fun z3 A3 J3 F3 kn => ?_)
  have F : cF ρ (fun q => q = 9 + x.toNat ∨ q = 12 + (2 + x).toNat) z1 A1 z3 A3 := cF_trans (cF_mono F2 (fun q hq => Or.inl hq)) (cF_mono F3 (fun q hq => Or.inr hq))
  refine hQ z3 A3 (ci_keep I1 F J3 (by show ¬ (_ ∨ _); omega) (fun q => by omega) (fun q => by omega) (fun i hi q => by omega) (fun i hi q => by omega) (fun i hi q => by omega) (fun i hi q => ?_)) (by rw [(F _ (by rw [c2]; omega)).1, zw1])
  have : i = (2 + x).toNat := by omega
  rw [this]
  exact ⟨Or.inr kn, fun _ => hg1⟩
theorem wq_c11_expect (I : ci_I L K r w ρ z A h) {Q : (Nat → Nat → Int) → (Nat → Nat → Int) → Prop} {X : String → (Nat → Nat → Int) → (Nat → Nat → Int) → Prop} (hQ : ∀ z' A' : Nat → Nat → Int, ci_I L K r w ρ z' A' h → z' (r (r h 0) 2) 1 = z (r (r h 0) 2) 1 → Q z' A') (hX : X "java/lang/IllegalStateException" z A) : wp_c11_expect L K z r A h Q X := by
  obtain ⟨hdg, h1, h2, h3, h4, h6, h7, h8, h9⟩ := id I.1
  obtain ⟨⟨a1, a2⟩, -, ⟨c1, c2, c3⟩, -, -, -, ⟨g1, g2, g3⟩, -, -, ⟨k1, k2⟩, ⟨l1, l2, l3⟩, -, ⟨n1, n2, n3, n4⟩, ⟨o1, o2, o3, o4⟩, -⟩ := id I.2.1
  have pg := (ci_g I).2
  have gg := I.2.2.2.2.1
  have no : wp_c11_expect_23 L K z r A Q X := hX
  refine ⟨a1, by omega, fun _ => no, fun c => ?_⟩
  have hg : z h 14 = 1 := by omega
  refine wq_c11_isGood I (Or.inl rfl) hg (fun v hv => ⟨by omega, fun _ => no, fun _ => ?_⟩)
  refine wq_c11_isGood I (Or.inr rfl) hg (fun v2 hv2 => ⟨by omega, fun _ => ?_, fun _ => no⟩)
  refine wq_c11_spreadWay I (Or.inl rfl) hg (fun z1 A1 I1 zh1 zw1 => ?_)
  have hg1 : z1 h 14 = 1 := by rw [zh1]; exact hg
  refine wq_c11_spreadWay I1 (Or.inr rfl) hg1 (fun z2 A2 I2 zh2 zw2 => ⟨g1, by omega, by omega, k1, ?_⟩)
  have hg2 : z2 h 14 = 1 := by rw [zh2]; exact hg1
  have hF2 := I2.2.2.2.2.2.1 hg2
  obtain ⟨p1, p2⟩ := g3 0 (by omega)
  obtain ⟨q1, q2⟩ := g3 1 (by omega)
  obtain ⟨R1, R2⟩ := l3 1 (by omega)
  have J2 := I2.2.2.1
  have eO : ∀ t a, cw_O L K t a → ¬ t = 11 → lp_U ρ h 99 a = ρ a := fun t a ha ht => lp_U_other (cw_O_ne ha a1 ht)
  obtain ⟨-, h1', h2', h3', h4', h6', h7', h8', h9'⟩ := ci_S1_h (fun a ha => (J2.1.1.1 a ha).1) a1 I.1
  show wp_c6_meet L K z2 r A2 (r h 8) (r h 13) (cw_g K (r h 5) 0) (cw_g K (r h 5) 1) (r h 11) _
  refine wq_c6_meet (ρ := lp_U ρ h 99) (S := fun q => q = 0 ∨ q = 11) J2 h1' h2' h3' h6' h7' k1 (by rw [eO _ _ k1 (by decide), k2]; exact Or.inr rfl) hF2 (by rw [eO _ _ hF2.1 (by decide)]; omega) p1 (by rw [eO _ _ p1 (by decide), p2]; omega) (I2.2.2.2.2.2.2.2.1 0 (by omega)) q1 (by rw [eO _ _ q1 (by decide), q2]; omega) (I2.2.2.2.2.2.2.2.1 1 (by omega)) n1 n2 (by rw [eO _ _ n1 (by decide), n4, a2]; exact Or.inl rfl) (by rw [eO _ _ n1 (by decide), eO _ _ k1 (by decide), n4, a2, k2]; decide) (fun z3 A3 J3 F3 => ?_)
  have zh3 : z3 h = z2 h := (F3 h (by rw [lp_U_same]; omega)).1
  have F3r : cF ρ (fun q => q = 0 ∨ q = 11) z2 A2 z3 A3 := fun a ha => F3 a (by
    have : a ≠ h := fun e => ha (by rw [e, a2]; exact Or.inl rfl)
    rw [lp_U_other this]
    exact ha)
  obtain ⟨⟨y1, y2, y3, y4⟩, -⟩ := h3 _ p1
  obtain ⟨⟨x1, x2, x3, x4⟩, -⟩ := h3 _ q1
  have T0 := I2.2.2.2.2.2.2.2.1 0 (by omega) 0 (by omega)
  have T1 := I2.2.2.2.2.2.2.2.1 1 (by omega) 0 (by omega)
  have e0 : z3 (cw_g K (r (cw_g K (r h 5) 0) 0) 0) = z2 (cw_g K (r (cw_g K (r h 5) 0) 0) 0) := (F3r _ (by rw [(y4 0 (by omega)).2.2.2, p2]; omega)).1
  have e1 : z3 (cw_g K (r (cw_g K (r h 5) 1) 0) 0) = z2 (cw_g K (r (cw_g K (r h 5) 1) 0) 0) := (F3r _ (by rw [(x4 0 (by omega)).2.2.2, q2]; omega)).1
  refine ⟨by omega, p1, y1, by show (0 : Int) ≤ 0 ∧ (0 : Int) < (cw_n K (r (cw_g K (r h 5) 0) 0) : Int); omega, by omega, q1, x1, by show (0 : Int) ≤ 0 ∧ (0 : Int) < (cw_n K (r (cw_g K (r h 5) 1) 0) : Int); omega, o1, ?_⟩
  show wp_c0_putProduct L K z3 r A3 (r h 12) (cw_g K (r (cw_g K (r h 5) 0) 0) 0) (cw_g K (r (cw_g K (r h 5) 1) 0) 0) _
  have na : ∀ b, cw_O L K 0 b → ρ b = 5 ∨ ρ b = 6 → b ≠ r h 12 := fun b hb e q => by
    rw [q, o4, a2] at e
    omega
  refine wq_c0_putProduct J3.1 o1 (y4 0 (by omega)).1 (x4 0 (by omega)).1 (na _ (y4 0 (by omega)).1 (by rw [(y4 0 (by omega)).2.2.2, p2]; omega)) (na _ (x4 0 (by omega)).1 (by rw [(x4 0 (by omega)).2.2.2, q2]; omega)) (by rw [e0, e1]; omega) (fun z4 A4 b4 Y4 _ _ => ⟨l1, by omega, hF2.1, R1, ?_⟩)
  have J4 : cJ L K r z4 A4 := cJ_Y J3 o1 b4 Y4
  show wp_c4_put L K z4 r A4 (cw_g K (r h 9) 1) (r h 11) (r h 12) (z4 (r h 13) 2) _
  have ls := (J4.1.2 _ n1).1
  have lw := (J4.1.2 _ o1).1
  refine wq_c4_put (S := fun q => q = 13) J4 h1 h4 R1 R2 n1 o1 (by rw [n4, a2, R2]; decide) (by rw [o4, a2, R2]; decide) (by omega) (by omega) (fun z5 A5 J5 F5 kn => ?_)
  have F4 : cF ρ (fun q => q = 0) z3 A3 z4 A4 := cF_Y h1 o1 (by rw [o4]; exact a2) Y4
  have F : cF ρ (fun q => q = 0 ∨ q = 11 ∨ q = 13) z2 A2 z5 A5 := cF_trans (cF_trans (cF_mono F3r (fun q hq => by omega)) (cF_mono F4 (fun q hq => Or.inl hq))) (cF_mono F5 (fun q hq => by omega))
  have zh5 : z5 h = z2 h := by rw [(F5 h (by rw [a2]; omega)).1, Y4.1 h (cw_O_ne a1 o1 (by decide)), zh3]
  refine hQ z5 A5 (ci_keep I2 F J5 (by show ¬ (_ ∨ _ ∨ _); omega) (fun _ => by rw [zh5]; exact ⟨rfl, I2.2.2.2.2.2.2.2.2.2.2.1, I2.2.2.2.2.2.2.2.2.2.2.2⟩) (fun q => by omega) (fun i hi q => by omega) (fun i hi q => by omega) (fun i hi q => by omega) (fun i hi q => ?_)) (by rw [(F _ (by rw [c2]; omega)).1, zw2, zw1])
  have : i = 1 := by omega
  subst this
  exact ⟨Or.inr kn, fun _ => hg2⟩
end CZ
