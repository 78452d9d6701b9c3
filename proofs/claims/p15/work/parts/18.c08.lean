section CH
variable {L : List Nat} {K : Nat → cw_K} {r : Nat → Nat → Nat} {z A : Nat → Nat → Int} {w : Nat → Nat × Nat} {ρ : Nat → Nat} {z0 A0 : Nat → Nat → Int} {R : Nat} {E : Int}
/-- two arrays of sides at different places -/
theorem cq_nn (X : cq_X L K r w ρ R) {t k t' k' : Nat} (ht : t < 2) (ht' : t' < 2) (hk : k = 1 ∨ k = 2 ∨ k = 3 ∨ k = 4 ∨ k = 6 ∨ k = 7) (hk' : k' = 1 ∨ k' = 2 ∨ k' = 3 ∨ k' = 4 ∨ k' = 6 ∨ k' = 7) (h : k ≠ k') : r (cw_g K (r (r R 3) 1) t) k ≠ r (cw_g K (r (r R 3) 1) t') k' := cg_ne (cq_ws X ht hk).2.2.1 (cq_ws X ht' hk').2.2.1 (fun e => h e.2)
/-- while the lines are numbered -/
noncomputable def cq_H (L : List Nat) (K : Nat → cw_K) (r : Nat → Nat → Nat) (ρ : Nat → Nat) (R : Nat) (z0 A0 z1 A z2 A2 : Nat → Nat → Int) : Prop := cF ρ (cq_r r ρ R) z0 A0 z2 A2 ∧ cJ L K r z2 A2 ∧ (∀ a, (∀ t, t < 2 → a ≠ cw_g K (r (r R 3) 1) t) → z2 a = z1 a) ∧ (∀ t, t < 2 → z2 (cw_g K (r (r R 3) 1) t) 0 = z1 (cw_g K (r (r R 3) 1) t) 0) ∧ (∀ a, (∀ t, t < 2 → a ≠ r (cw_g K (r (r R 3) 1) t) 6 ∧ a ≠ r (cw_g K (r (r R 3) 1) t) 7) → A2 a = A a)
theorem wq_c5_finish (X : cq_X L K r w ρ R) (D : cq_D L K r ρ R z0 A0 (fun _ _ => False) (fun _ _ => False) E z A) (N : cq_n r A R E 0) (T : cl_T L K r z A (r R 2)) {Q : (Nat → Nat → Int) → (Nat → Nat → Int) → Prop} (h1 : ∀ z' A', cF ρ (cq_r r ρ R) z0 A0 z' A' → cJ L K r z' A' → cl_T L K r z' A' (r R 2) → z' R = z R → cg_F L K r z' A' (r R 3) → Q z' A') (h0 : ∀ z' A', cq_E L K r ρ R z0 A0 z' A' → Q z' A') : wp_c5_finish L K z r A R Q := by
  obtain ⟨d1, d2, d3, d4, d5⟩ := id D
  obtain ⟨n1, n2, n3, n4, n5, n6⟩ := id N
  have hE : 0 ≤ E ∧ E ≤ 400 := by omega
  have x1 := X.1
  have x2 := X.2.1
  have x4 := X.2.2.2.1
  have x10 := X.2.2.2.2.2.2.2.2.2.1
  have x12 := X.2.2.2.2.2.2.2.2.2.2.2
  have g7 := (X.2.2.2.2.2.2.2.2.2.2.1 _ x4).2.1
  have o := cq_o3 X
  have l7 := g7.2.1
  have c1 := (cq_wc X).1
  have mv : ∀ t, t < 2 → ∀ i : Nat, (i : Int) < z (cw_g K (r (r R 3) 1) t) 0 → 1 ≤ A (r (cw_g K (r (r R 3) 1) t) 2) i ∧ A (r (cw_g K (r (r R 3) 1) t) 2) i ≤ 4 := by
    intro t ht i hi
    obtain ⟨b1, b2, -⟩ := (d3 t ht).2 i hi
    have : ¬ A (r (cw_g K (r (r R 3) 1) t) 2) i = 0 := fun q => b2 q
    omega
  have dd : ∀ t, t < 2 → ∀ i : Nat, (i : Int) < z (cw_g K (r (r R 3) 1) t) 0 → A (r (cw_g K (r (r R 3) 1) t) 4) i = -1 ∨ (0 ≤ A (r (cw_g K (r (r R 3) 1) t) 4) i ∧ A (r (cw_g K (r (r R 3) 1) t) 4) i / 512 < (i : Int) ∧ A (r (cw_g K (r (r R 3) 1) t) 4) i % 512 < A (r (cw_g K (r (r R 3) 1) t) 2) (A (r (cw_g K (r (r R 3) 1) t) 4) i / 512).toNat) := by
    intro t ht i hi
    obtain ⟨-, -, -, b4, b5⟩ := (d3 t ht).2 i hi
    rcases b5 with b5 | ⟨b5, b6, b7 | b7⟩
    · exact Or.inl b5
    · exact b7.elim
    · exact Or.inr ⟨b5, by omega, b7⟩
  have ref : ∀ (z1 A1 : Nat → Nat → Int) (v : Int), (¬ v = 0 ∧ hz_rI v) → cF ρ (cq_r r ρ R) z0 A0 z1 A1 → cJ L K r z1 A1 → cl_T L K r z1 A1 (r R 2) → wp_c5_refuse L K z1 r A1 R v (z1 (r R 2) 1) (fun _ z' => Q z' A1) := fun z1 A1 v hv F1 J1 T1 => wq_c5_refuse X F1 J1 T1 hv (by have := T1.2.2.2.1; omega) (fun z' e => h0 z' A1 e)
  intro PP hPP
  have stp : ∀ (t : Nat) (x : Int), t < 2 → x = (t : Int) → (cPm (A (r (cw_g K (r (r R 3) 1) t) 2)) (z (cw_g K (r (r R 3) 1) t) 0).toNat ≤ 64 → ∀ x', x' = x + 1 → PP x') → PP x := by
    intro t x ht ex nx
    have xt : x.toNat = t := by omega
    refine hPP x ⟨by omega, fun q => by omega, fun _ => ⟨x1, x4, g7.1, by omega, ?_⟩⟩
    rw [xt]
    exact ⟨(cq_side X ht).1, wq_c7_countPlansE (cq_side X ht).1 x12 (d3 t ht).1 (mv t ht) (fun rg => ⟨rg, fun le x' ex' => nx le x' ex', fun _ => ⟨x2, ref z A 2 (by decide) d1 d2 T⟩⟩)⟩
  refine stp 0 0 (by omega) rfl (fun p0 xa exa => stp 1 xa (by omega) (by omega) (fun p1 xb exb => ?_))
  have pl : ∀ t, t < 2 → cS (A (r (cw_g K (r (r R 3) 1) t) 2)) (z (cw_g K (r (r R 3) 1) t) 0).toNat ≤ 19 := by
    intro t ht
    have hz := (d3 t ht).1
    refine cPm_19 (by omega) (fun i hi => mv t ht i (by omega)) ?_
    have : t = 0 ∨ t = 1 := by omega
    rcases this with rfl | rfl
    · exact p0
    · exact p1
  refine hPP xb ⟨by omega, fun _ => ⟨x1, wq_c5_findCommonNumber X d2 hE n1 (fun j hj => (d4 j hj).1.1) (fun v z1 hv o1 hcm => ?_)⟩, fun q => by omega⟩
  have F1 : cF ρ (cq_r r ρ R) z0 A0 z1 A := cF_trans d1 (fun a ha => ⟨o1 a (fun e => ha (by rw [e]; exact Or.inr rfl)), rfl⟩)
  have J1 : cJ L K r z1 A := cJ_z d2 (fun b hb => o1 b (cw_O_ne hb x4 (by decide)))
  have T1 : cl_T L K r z1 A (r R 2) := cl_T_keep T (o1 _ o.2.2.2.1) rfl
  refine ⟨by omega, fun nv => ?_, fun ev => ⟨x2, ref z1 A 6 (by decide) F1 J1 T1⟩⟩
  have hcm := hcm (by omega)
  have zs1 : ∀ t, t < 2 → z1 (cw_g K (r (r R 3) 1) t) = z (cw_g K (r (r R 3) 1) t) := fun t ht => o1 _ (o.2.2.2.2 t ht).2.1
  intro PP2 hPP2
  have stp2 : ∀ (t : Nat) (x : Int) (z2 A2 : Nat → Nat → Int), t < 2 → x = (t : Int) → cq_H L K r ρ R z0 A0 z1 A z2 A2 → (∀ z3 A3 : Nat → Nat → Int, cq_H L K r ρ R z0 A0 z1 A z3 A3 → (∀ a, a ≠ cw_g K (r (r R 3) 1) t → z3 a = z2 a) → (∀ a, a ≠ r (cw_g K (r (r R 3) 1) t) 6 → a ≠ r (cw_g K (r (r R 3) 1) t) 7 → A3 a = A2 a) → cs_F L K r z3 A3 (cw_g K (r (r R 3) 1) t) → ∀ x', x' = x + 1 → PP2 z3 A3 x') → PP2 z2 A2 x := by
    intro t x z2 A2 ht ex H nx
    obtain ⟨H1, H2, H3, H4, H5⟩ := H
    have xt : x.toNat = t := by omega
    have e2 : A2 (r (cw_g K (r (r R 3) 1) t) 2) = A (r (cw_g K (r (r R 3) 1) t) 2) := H5 _ (fun t' ht' => ⟨cq_nn X ht ht' (by omega) (by omega) (by decide), cq_nn X ht ht' (by omega) (by omega) (by decide)⟩)
    have e4 : A2 (r (cw_g K (r (r R 3) 1) t) 4) = A (r (cw_g K (r (r R 3) 1) t) 4) := H5 _ (fun t' ht' => ⟨cq_nn X ht ht' (by omega) (by omega) (by decide), cq_nn X ht ht' (by omega) (by omega) (by decide)⟩)
    have e0 : z2 (cw_g K (r (r R 3) 1) t) 0 = z (cw_g K (r (r R 3) 1) t) 0 := by rw [H4 t ht, zs1 t ht]
    refine hPP2 z2 A2 x ⟨by omega, fun q => by omega, fun _ => ⟨x1, x4, g7.1, by omega, ?_⟩⟩
    rw [xt]
    refine ⟨(cq_side X ht).1, wq_c7_numberLines (cq_side X ht).1 x10 x12 H2 (by rw [e0]; exact (d3 t ht).1) (by rw [e0, e2]; exact mv t ht) (by rw [e0, e2, e4]; exact dd t ht) (by rw [e0, e2]; exact pl t ht) (fun z3 A3 o3 s0 oA J3 F3 => nx z3 A3 ⟨?_, J3, ?_, ?_, ?_⟩ o3 oA F3)⟩
    · exact cF_trans H1 (fun a ha => ⟨o3 a (fun e => ha (by rw [e]; exact Or.inr (cq_side X ht).2.2)), oA a (fun e => ha (by rw [e]; exact Or.inr (cq_ws X ht (by omega)).2.2.2)) (fun e => ha (by rw [e]; exact Or.inr (cq_ws X ht (by omega)).2.2.2))⟩)
    · exact fun a ha => by rw [o3 a (ha t ht)]; exact H3 a ha
    · intro t' ht'
      by_cases e : t' = t
      · rw [e, s0]; exact H4 t ht
      · rw [o3 _ (cq_side_ne X ht' ht e)]; exact H4 t' ht'
    · exact fun a ha => by rw [oA a (ha t ht).1 (ha t ht).2]; exact H5 a ha
  refine stp2 0 0 z1 A (by omega) rfl ⟨F1, J1, fun _ _ => rfl, fun _ _ => rfl, fun _ _ => rfl⟩ (fun z2 A2 H2 oz2 oA2 S0 xc exc => stp2 1 xc z2 A2 (by omega) (by omega) H2 (fun z3 A3 H3 oz3 oA3 S1 xd exd => ?_))
  have S0' : cs_F L K r z3 A3 (cw_g K (r (r R 3) 1) 0) := by
    have ne : (cw_g K (r (r R 3) 1) 0) ≠ (cw_g K (r (r R 3) 1) 1) := cq_side_ne X (by omega) (by omega) (by decide)
    have ea : ∀ k, (k = 1 ∨ k = 2 ∨ k = 3 ∨ k = 4 ∨ k = 6 ∨ k = 7) → A3 (r (cw_g K (r (r R 3) 1) 0) k) = A2 (r (cw_g K (r (r R 3) 1) 0) k) := fun k hk => oA3 _ ((cq_apart X (t := 1) (by omega) (by omega)).2.2.2 0 k (by omega) hk (by decide)) ((cq_apart X (t := 1) (by omega) (by omega)).2.2.2 0 k (by omega) hk (by decide))
    unfold cs_F at S0 ⊢
    rw [oz3 _ ne, ea 2 (by omega), ea 4 (by omega), ea 6 (by omega), ea 7 (by omega)]
    exact S0
  obtain ⟨G1, G2, G3, G4, G5⟩ := H3
  have zs3 : ∀ t, t < 2 → z3 (cw_g K (r (r R 3) 1) t) 0 = z (cw_g K (r (r R 3) 1) t) 0 := fun t ht => by rw [G4 t ht, zs1 t ht]
  have eR : ∀ k, (k = 9 ∨ k = 10 ∨ k = 11 ∨ k = 12) → A3 (r R k) = A (r R k) := fun k hk => G5 _ (fun t ht => ⟨(cq_apart X ht (by omega)).1 k hk, (cq_apart X ht (by omega)).1 k hk⟩)
  have eW : ∀ i, i < 20 → A3 (cw_g K (r (r R 3) 3) i) = A (cw_g K (r (r R 3) 3) i) := fun i hi => G5 _ (fun t ht => ⟨(cq_apart X ht (by omega)).2.1 i hi, (cq_apart X ht (by omega)).2.1 i hi⟩)
  have eC : A3 (r (r R 3) 0) = A (r (r R 3) 0) := G5 _ (fun t ht => ⟨(cq_apart X ht (by omega)).2.2.1, (cq_apart X ht (by omega)).2.2.1⟩)
  have e2 : ∀ t, t < 2 → A3 (r (cw_g K (r (r R 3) 1) t) 2) = A (r (cw_g K (r (r R 3) 1) t) 2) := fun t ht => G5 _ (fun t' ht' => ⟨cq_nn X ht ht' (by omega) (by omega) (by decide), cq_nn X ht ht' (by omega) (by omega) (by decide)⟩)
  have he : cq_e K r z3 A3 R (fun _ _ => False) E := by
    intro j hj
    have := d4 j hj
    unfold cq_d at this ⊢
    rw [eR 9 (by omega), eR 10 (by omega), eR 11 (by omega), eR 12 (by omega), zs3 0 (by omega), zs3 1 (by omega), e2 0 (by omega), e2 1 (by omega)]
    exact this
  have z3g : z3 (r R 3) = z1 (r R 3) := G3 _ (fun t ht => Ne.symm (o.2.2.2.2 t ht).2.1)
  have z3w : z3 (r R 2) = z (r R 2) := by rw [G3 _ (fun t ht => Ne.symm (o.2.2.2.2 t ht).2.2)]; exact o1 _ o.2.2.2.1
  have z3R : z3 R = z R := by rw [G3 _ (fun t ht => Ne.symm (o.2.2.2.2 t ht).1)]; exact o1 _ (Ne.symm o.2.1)
  refine hPP2 z3 A3 xd ⟨by omega, fun _ => ⟨x1, wq_c5_fillWeights X G2 hE (by rw [eC]; exact n1) he (fun i j hi hj => by rw [eW i hi]; exact d5 i j hi hj) S0' S1 (by rw [z3g]; exact hcm) (fun v A4 hv J4 fr hW => ?_)⟩, fun q => by omega⟩
  have tx : ∀ t y, cw_A L K t y → (t = 0 ∨ t = 1) → r (r R 2) 0 ≠ y := fun t y hy' ht e => by
    have q := T.2.1
    rw [e] at q
    have := cw_A_ne q hy'
    omega
  have aw : A4 (r (r R 2) 0) = A (r (r R 2) 0) := by
    rw [fr _ (fun i hi => tx 1 _ (cq_ww X hi).1 (by omega)), G5 _ (fun t ht => ⟨tx 0 _ (cq_ws X ht (by omega)).1 (by omega), tx 0 _ (cq_ws X ht (by omega)).1 (by omega)⟩)]
  have T4 : cl_T L K r z3 A4 (r R 2) := cl_T_keep T z3w aw
  have F4 : cF ρ (cq_r r ρ R) z0 A0 z3 A4 := cF_trans G1 (fun a ha => ⟨rfl, fr a (fun i hi e => ha (by rw [e]; exact Or.inr (cq_ww X hi).2.2.2))⟩)
  refine ⟨by omega, fun nv' => ?_, fun ev => ⟨x2, ref z3 A4 6 (by decide) F4 J4 T4⟩⟩
  have SS : ∀ t, t < 2 → cs_F L K r z3 A3 (cw_g K (r (r R 3) 1) t) → cs_F L K r z3 A4 (cw_g K (r (r R 3) 1) t) := by
    intro t ht S
    have ea : ∀ k, (k = 1 ∨ k = 2 ∨ k = 3 ∨ k = 4 ∨ k = 6 ∨ k = 7) → A4 (r (cw_g K (r (r R 3) 1) t) k) = A3 (r (cw_g K (r (r R 3) 1) t) k) := fun k hk => fr _ (fun i hi => Ne.symm ((cq_apart X ht hk).2.1 i hi))
    unfold cs_F at S ⊢
    rw [ea 2 (by omega), ea 4 (by omega), ea 6 (by omega), ea 7 (by omega)]
    exact S
  exact h1 z3 A4 F4 J4 T4 z3R ⟨x4, SS 0 (by omega) S0', SS 1 (by omega) S1, hW (by omega), by rw [z3g]; exact hcm⟩
theorem cJ_A {x t : Nat} {A' : Nat → Nat → Int} (J : cJ L K r z A) (hx : cw_A L K t x) (hd : ∀ b, cw_O L K 0 b → r b 0 ≠ x) (hA : ∀ a, a ≠ x → A' a = A a) (hv : ∀ i, (t = 0 → hz_rI (A' x i)) ∧ (t = 1 → hz_rL (A' x i)) ∧ (t = 2 → 0 ≤ A' x i ∧ A' x i < 65536) ∧ (t = 3 → A' x i = 0 ∨ A' x i = 1)) : cJ L K r z A' := by
  refine ⟨⟨⟨fun b hb => ⟨(J.1.1.1 b hb).1, (J.1.1.1 b hb).2.1, by rw [hA _ (hd b hb)]; exact (J.1.1.1 b hb).2.2⟩, J.1.1.2⟩, fun b hb => ?_⟩, fun y => ?_⟩
  · have := J.1.2 b hb
    unfold cb_k at this ⊢
    rw [hA _ (hd b hb)]
    exact this
  · by_cases hy : y = x
    · subst hy
      exact ⟨fun q i => (hv i).1 (cw_A_ne hx q), fun q i => (hv i).2.1 (cw_A_ne hx q), fun q i => (hv i).2.2.1 (cw_A_ne hx q), fun q i => (hv i).2.2.2 (cw_A_ne hx q)⟩
    · rw [hA y hy]
      exact J.2 y
theorem wq_c2_clear (X : cq_X L K r w ρ R) (J : cJ L K r z A) {Q : (Nat → Nat → Int) → (Nat → Nat → Int) → Prop} (hQ : ∀ z' A' : Nat → Nat → Int, (∀ a, (∀ t, t < 2 → a ≠ cw_g K (r (r R 3) 1) t) → z' a = z a) → (∀ t, t < 2 → z' (cw_g K (r (r R 3) 1) t) 0 = 0) → (∀ a, a ≠ r (r R 3) 0 → (∀ i, i < 20 → a ≠ cw_g K (r (r R 3) 3) i) → A' a = A a) → (∀ j, j < 4 → A' (r (r R 3) 0) j = 0) → cq_0 K r A' R → cJ L K r z' A' → Q z' A') : wp_c2_clear L K z r A (r R 3) Q := by
  obtain ⟨c1, c2, c3, c4⟩ := cq_wc X
  have x4 := X.2.2.2.1
  have x10 := X.2.2.2.2.2.2.2.2.2.1
  have g7 := (X.2.2.2.2.2.2.2.2.2.2.1 _ x4).2.1
  have g10 := (X.2.2.2.2.2.2.2.2.2.2.1 _ x4).2.2
  have o := cq_o3 X
  have l7 := g7.2.1
  have l10 := g10.2.1
  have nC : ∀ i, i < 20 → r (r R 3) 0 ≠ cw_g K (r (r R 3) 3) i := fun i hi => cg_ne c3 (cq_ww X hi).2.2.1 (fun e => o.1 _ _ x4 e.1)
  have at45 : ∀ (z1 A1 : Nat → Nat → Int), (∀ a, (∀ t, t < 2 → a ≠ cw_g K (r (r R 3) 1) t) → z1 a = z a) → (∀ t, t < 2 → z1 (cw_g K (r (r R 3) 1) t) 0 = 0) → (∀ a, a ≠ r (r R 3) 0 → A1 a = A a) → (∀ j, j < 4 → A1 (r (r R 3) 0) j = 0) → cJ L K r z1 A1 → wp_c2_clear_45 L K z1 r A1 (r R 3) 0 Q := by
    intro z1 A1 oz sz oA sA J1
    intro P45 hP45
    have key : ∀ (k n : Nat) (A2 : Nat → Nat → Int) (x : Int), n + k = 20 → x = (n : Int) → (∀ a, (∀ i, i < 20 → a ≠ cw_g K (r (r R 3) 3) i) → A2 a = A1 a) → (∀ i j, i < n → j < 20 → A2 (cw_g K (r (r R 3) 3) i) j = 0) → cJ L K r z1 A2 → P45 A2 x := by
      intro k
      induction k with
      | zero =>
        intro n A2 x hk ex fr hz J2
        exact hP45 A2 x ⟨by omega, fun _ => hQ z1 A2 oz sz (fun a a1 a2 => by rw [fr a a2]; exact oA a a1) (fun j hj => by rw [fr _ nC]; exact sA j hj) (fun i j hi hj => hz i j (by omega) hj) J2, fun q => by omega⟩
      | succ k ih =>
        intro n A2 x hk ex fr hz J2
        have xn : x.toNat = n := by omega
        obtain ⟨y1, y2, y3, y4⟩ := cq_ww X (i := n) (by omega)
        refine hP45 A2 x ⟨by omega, fun q => by omega, fun _ => ?_⟩
        intro P53 hP53
        have key2 : ∀ (l m : Nat) (A3 : Nat → Nat → Int) (x2 : Int), m + l = 20 → x2 = (m : Int) → (∀ a, (∀ i, i < 20 → a ≠ cw_g K (r (r R 3) 3) i) → A3 a = A1 a) → (∀ i j, i < n → j < 20 → A3 (cw_g K (r (r R 3) 3) i) j = 0) → (∀ j, j < m → A3 (cw_g K (r (r R 3) 3) n) j = 0) → cJ L K r z1 A3 → P53 A3 x2 := by
          intro l
          induction l with
          | zero =>
            intro m A3 x2 hl ex2 fr3 hz3 hm3 J3
            refine hP53 A3 x2 ⟨by omega, fun _ x' ex' => ih (n + 1) A3 x' (by omega) (by omega) fr3 (fun i j hi hj => ?_) J3, fun q => by omega⟩
            by_cases e : i = n
            · rw [e]; exact hm3 j (by omega)
            · exact hz3 i j (by omega) hj
          | succ l ih2 =>
            intro m A3 x2 hl ex2 fr3 hz3 hm3 J3
            refine hP53 A3 x2 ⟨by omega, fun q => by omega, fun _ => ⟨x4, g10.1, by omega, ?_⟩⟩
            rw [xn]
            refine ⟨y1, by omega, fun A4 e4 x' ex' => ih2 (m + 1) A4 x' (by omega) (by omega) (fun a ha => by rw [e4, hz_s_a (ha n (by omega))]; exact fr3 a ha) (fun i j hi hj => ?_) (fun j hj => ?_) ?_⟩
            · rw [e4, hz_s_a (cg_ne (cq_ww X (i := i) (by omega)).2.2.1 y3 (fun e => by omega))]
              exact hz3 i j hi hj
            · by_cases e : j = m
              · have t := hz_s_same (A := A3) (cw_g K (r (r R 3) 3) n) x2 0
                rw [← e4, show x2.toNat = j by omega] at t
                exact t
              · rw [e4, hz_s_i (by omega)]
                exact hm3 j (by omega)
            · rw [e4]
              exact cJ_st J3 y1 (fun b hb => cg_ne (x10 b hb) y3 (fun e => o.1 _ _ hb e.1)) ⟨by omega, fun _ => by omega, by omega, by omega⟩
        exact key2 20 0 A2 0 (by omega) rfl fr hz (fun j hj => by omega) J2
    exact key 20 0 A1 0 (by omega) rfl (fun _ _ => rfl) (fun i j hi hj => by omega) J1
  have at22 : ∀ (A1 : Nat → Nat → Int), (∀ a, a ≠ r (r R 3) 0 → A1 a = A a) → (∀ j, j < 4 → A1 (r (r R 3) 0) j = 0) → cJ L K r z A1 → wp_c2_clear_22 L K z r A1 (r R 3) 0 Q := by
    intro A1 oA sA J1
    intro P22 hP22
    have key : ∀ (k n : Nat) (z1 : Nat → Nat → Int) (x : Int), n + k = 2 → x = (n : Int) → (∀ a, (∀ t, t < 2 → a ≠ cw_g K (r (r R 3) 1) t) → z1 a = z a) → (∀ t, t < n → z1 (cw_g K (r (r R 3) 1) t) 0 = 0) → cJ L K r z1 A1 → P22 z1 x := by
      intro k
      induction k with
      | zero =>
        intro n z1 x hk ex oz sz J2
        exact hP22 z1 x ⟨by omega, fun _ => at45 z1 A1 oz (fun t ht => sz t (by omega)) oA sA J2, fun q => by omega⟩
      | succ k ih =>
        intro n z1 x hk ex oz sz J2
        have xn : x.toNat = n := by omega
        refine hP22 z1 x ⟨by omega, fun q => by omega, fun _ => ⟨x4, g7.1, by omega, ?_⟩⟩
        rw [xn]
        have sd := (cq_side X (t := n) (by omega)).1
        refine ⟨sd, fun z2 e2 x' ex' => ih (n + 1) z2 x' (by omega) (by omega) (fun a ha => by rw [e2, cw_s_a (ha n (by omega))]; exact oz a ha) (fun t ht => ?_) (cJ_z J2 (fun b hb => by rw [e2, cw_s_a (cw_O_ne hb sd (by decide))]))⟩
        by_cases e : t = n
        · rw [e, e2, cw_s_same]
        · rw [e2, cw_s_a (cq_side_ne X (by omega) (by omega) e)]
          exact sz t (by omega)
    exact key 2 0 z 0 (by omega) rfl (fun _ _ => rfl) (fun t ht => by omega) J1
  intro P2 hP2
  have key : ∀ (k n : Nat) (A1 : Nat → Nat → Int) (x : Int), n + k = 4 → x = (n : Int) → (∀ a, a ≠ r (r R 3) 0 → A1 a = A a) → (∀ j, j < n → A1 (r (r R 3) 0) j = 0) → cJ L K r z A1 → P2 A1 x := by
    intro k
    induction k with
    | zero =>
      intro n A1 x hk ex oA sA J1
      exact hP2 A1 x ⟨by omega, fun _ => at22 A1 oA (fun j hj => sA j (by omega)) J1, fun q => by omega⟩
    | succ k ih =>
      intro n A1 x hk ex oA sA J1
      refine hP2 A1 x ⟨by omega, fun q => by omega, fun _ => ⟨x4, c1, by omega, fun A2 e2 x' ex' => ih (n + 1) A2 x' (by omega) (by omega) (fun a ha => by rw [e2, hz_s_a ha]; exact oA a ha) (fun j hj => ?_) ?_⟩⟩
      · by_cases e : j = n
        · have t := hz_s_same (A := A1) (r (r R 3) 0) x 0
          rw [← e2, show x.toNat = j by omega] at t
          exact t
        · rw [e2, hz_s_i (by omega)]
          exact sA j (by omega)
      · rw [e2]
        exact cJ_st J1 c1 (cg_dig x10 c3 x4 (by decide)) ⟨fun _ => by omega, by omega, by omega, by omega⟩
  exact key 4 0 A 0 (by omega) rfl (fun _ _ => rfl) (fun j hj => by omega) J
theorem wq_c5_understand (X : cq_X L K r w ρ R) (J : cJ L K r z A) (T : cl_T L K r z A (r R 2)) {Q : Int → (Nat → Nat → Int) → (Nat → Nat → Int) → Prop} (h1 : ∀ z' A', cF ρ (cq_r r ρ R) z A z' A' → cJ L K r z' A' → cl_T L K r z' A' (r R 2) → z' R 0 = -1 → cg_F L K r z' A' (r R 3) → Q 0 z' A') (h0 : ∀ z' A', cq_E L K r ρ R z A z' A' → Q (z' R 1) z' A') : wp_c5_understand L K z r A R Q := by
  obtain ⟨x1, x2, x3, x4, g4, x9, xa, xb, xc, x10, x11, x12⟩ := id X
  obtain ⟨c1, c2, c3, c4⟩ := cq_wc X
  have o := cq_o3 X
  have tx : ∀ t y, cw_A L K t y → ¬ t = 2 → r (r R 2) 0 ≠ y := fun t y hy' ht e => by
    have q := T.2.1
    rw [e] at q
    have := cw_A_ne q hy'
    omega
  refine ⟨x1, x4, wq_c2_clear X J (fun zc Ac oz sz oA sA Z0 Jc z7 e7 z8 e8 => ⟨x2, ?_⟩)⟩
  have o8 : ∀ a, a ≠ R → z8 a = zc a := fun a ha => by rw [e8, cw_s_a ha, e7, cw_s_a ha]
  have f80 : z8 R 0 = -1 := by rw [e8, cw_s_same]
  have f81 : z8 R 1 = 0 := by rw [e8, cw_s_k (by decide), e7, cw_s_same]
  have txc : Ac (r (r R 2) 0) = A (r (r R 2) 0) := oA _ (tx 0 _ c1 (by decide)) (fun i hi => tx 1 _ (cq_ww X hi).1 (by decide))
  have zw8 : z8 (r R 2) = z (r R 2) := by rw [o8 _ o.2.2.1, oz _ (fun t ht => Ne.symm (o.2.2.2.2 t ht).2.2)]
  have T8 : cl_T L K r z8 Ac (r R 2) := cl_T_keep T zw8 txc
  refine wq_c10_goToStart T8 (fun z10 b q o10 T10 l1 l3 l5 hR hk => ?_)
  rw [← l1] at hR
  have bo : ∀ i, Ac (r R 4) i = 0 ∨ Ac (r R 4) i = 1 := fun i => (Jc.2 _).2.2.2 g4.1 i
  have JJ : ∀ z13 A14 : Nat → Nat → Int, cq_f L K r z10 Ac z13 A14 R → cJ L K r z13 A14 ∧ cF ρ (cq_r r ρ R) z A z13 A14 := by
    intro z13 A14 f
    obtain ⟨f1, f2, f3, f4, f5, f6, f7⟩ := f
    have zz : ∀ a, a ≠ R → a ≠ r R 2 → z13 a = zc a := fun a a1 a2 => by rw [f1 a a1 a2, o10 a a2, o8 a a1]
    refine ⟨cJ_A (cJ_z Jc (fun b hb => zz b (cw_O_ne hb x1 (by decide)) (cw_O_ne hb x2 (by decide)))) g4.1 (cg_dig x10 g4.2.2.1 x1 (by decide)) f3 (fun i => ⟨by omega, by omega, by omega, fun _ => f4 i⟩), fun a ha => ⟨?_, ?_⟩⟩
    · rw [zz a (fun e => ha (by rw [e]; exact Or.inl rfl)) (fun e => ha (by rw [e]; exact Or.inl x3))]
      exact oz a (fun t ht e => ha (by rw [e]; exact Or.inr (cq_side X ht).2.2))
    · rw [f3 a (fun e => ha (by rw [e]; exact Or.inl g4.2.2.2))]
      exact oA a (fun e => ha (by rw [e]; exact Or.inr c4)) (fun i hi e => ha (by rw [e]; exact Or.inr (cq_ww X hi).2.2.2))
  refine wq_c5_isOne x1 x2 g4.1 g4.2.1 T10 bo l3 l5 hR hk (fun z13 A14 f acc => ⟨by decide, fun _ => ?_, fun q => absurd q (by decide)⟩) (fun z13 A14 f => ⟨by decide, fun q => absurd rfl q, fun _ => ?_⟩)
  · obtain ⟨J13, F13⟩ := JJ z13 A14 f
    obtain ⟨f1, f2, f3, f4, f5, f6, f7⟩ := f
    refine wq_c10_goToStart f5 (fun z17 b' q' o17 T17 m1 m3 m5 hR' hk' => ?_)
    have n4 : ∀ t y, cw_A L K t y → ¬ t = 3 → y ≠ r R 4 := fun t y hy' ht e => by
      rw [e] at hy'
      have := cw_A_ne hy' g4.1
      omega
    have c14 : A14 (r (r R 2) 0) = Ac (r (r R 2) 0) := f3 _ (n4 2 _ T.2.1 (by decide))
    have z17R : ∀ j, j ≠ 5 → j ≠ 6 → z17 R j = z8 R j := fun j j5 j6 => by rw [o17 R (Ne.symm o.2.2.1), f2 j j5 j6, o10 R (Ne.symm o.2.2.1)]
    have zs : ∀ t, t < 2 → z17 (cw_g K (r (r R 3) 1) t) 0 = 0 := fun t ht => by
      rw [o17 _ (o.2.2.2.2 t ht).2.2, f1 _ (o.2.2.2.2 t ht).1 (o.2.2.2.2 t ht).2.2, o10 _ (o.2.2.2.2 t ht).2.2, o8 _ (o.2.2.2.2 t ht).1]
      exact sz t ht
    have D17 : cq_D L K r ρ R z A (fun _ _ => False) (fun _ _ => False) 0 z17 A14 := by
      refine ⟨cF_trans F13 (cq_fr X (fun a a1 _ => o17 a a1)), cq_fJ X J13 (fun a a1 _ => o17 a a1), fun t ht => ⟨by rw [zs t ht]; decide, fun i hi => ?_⟩, fun j hj => by omega, fun i j hi hj => ?_⟩
      · rw [zs t ht] at hi
        omega
      · rw [f3 _ (n4 1 _ (cq_ww X hi).1 (by decide))]
        exact Z0 i j hi hj
    have cn : ∀ j, j < 4 → A14 (r (r R 3) 0) j = 0 := fun j hj => by rw [f3 _ (n4 0 _ c1 (by decide))]; exact sA j hj
    have N17 : cq_n r A14 R 0 0 := ⟨cn 1 (by decide), by decide, by rw [cn 2 (by decide)]; decide, by rw [cn 3 (by decide)]; decide, by rw [cn 2 (by decide), cn 3 (by decide), cn 0 (by decide)]; decide, by rw [cn 0 (by decide)]; decide⟩
    rw [c14, f6] at hR'
    have w17 : cq_w L K r (Ac (r (r R 2) 0)) (z10 (r R 2) 1).toNat z17 A14 R 0 := ⟨T17, by rw [m1, f6], c14, b', q', m3, m5, hR', hk', Ne.symm o.2.2.1, by rw [z17R 1 (by decide) (by decide)]; exact f81, by rw [z17R 0 (by decide) (by decide)]; exact f80⟩
    refine cq_node (z0 := z) (A0 := A) (c := Ac (r (r R 2) 0)) (n := (z10 (r R 2) 1).toNat) X 25 z17 A14 (fun _ _ => False) (fun _ _ => False) 0 [] 0 0 0 1 1 (-1) (-1) _ D17 N17 w17 acc (by decide) (by decide) (Or.inl rfl) (Or.inl rfl) (fun E' z' A' p' D' N' M' w' a' => ⟨by decide, fun q => absurd q (by decide), fun _ => ?_⟩) (fun z' A' e => ⟨by decide, fun _ => ⟨x1, h0 z' A' e⟩, fun q => absurd rfl q⟩)
    obtain ⟨T', -, -, -, -, -, -, -, -, -, g1, g0⟩ := w'
    refine wq_c5_finish X D' N' T' (fun z2 A2 F2 J2 T2 zR G2 => ⟨x1, ?_⟩) (fun z2 A2 e => ⟨x1, h0 z2 A2 e⟩)
    rw [show z2 R 1 = 0 by rw [zR]; exact g1]
    exact h1 z2 A2 F2 J2 T2 (by rw [zR]; exact g0) G2
  · obtain ⟨J13, F13⟩ := JJ z13 A14 f
    obtain ⟨f1, f2, f3, f4, f5, f6, f7⟩ := f
    exact wq_c5_refuse X F13 J13 f5 (by decide) (by omega) (fun z' e => h0 z' A14 e)
end CH
