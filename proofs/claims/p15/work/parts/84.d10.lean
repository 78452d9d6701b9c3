/-- n characters of y behind a text of l characters -/
noncomputable def tx_R (f f' : Nat → Int) (l n y : Int) : Prop := (∀ i : Nat, (i : Int) < l → f' i = f i) ∧ ∀ q : Nat, (q : Int) < n → f' (l + n - 1 - (q : Int)).toNat = ct_c y q
section CW
variable {L : List Nat} {K : Nat → cw_K} {r : Nat → Nat → Nat} {z A : Nat → Nat → Int} {W : Nat}
theorem wv_c10_append {y n : Int} (hT : cl_T L K r z A W) (hn : hz_rI n) {Q : Int → (Nat → Nat → Int) → (Nat → Nat → Int) → Prop} (hQ1 : ct_ok y n (z W 1) → ∀ z' A' : Nat → Nat → Int, (∀ a, a ≠ W → z' a = z a) → (∀ a, a ≠ r W 0 → A' a = A a) → cl_T L K r z' A' W → z' W 1 = z W 1 + n → tx_R (A (r W 0)) (A' (r W 0)) (z W 1) n y → Q 1 z' A') (hQ0 : ¬ ct_ok y n (z W 1) → Q 0 z A) : wp_c10_append L K z r A W y n Q := by
  obtain ⟨t1, t2, t3, t4, t5, t6⟩ := hT
  have no : ¬ ct_ok y n (z W 1) → wp_c10_append_23 L K z r A Q := hQ0
  refine ⟨hn, fun c => no (fun h => by have := h.1; omega), fun c1 => ⟨hn, fun c => no (fun h => by have := h.2.1; omega), fun c2 => ⟨t1, by omega, fun c3 => ?_, fun c3 => no (fun h => by have := h.2.2.1; omega)⟩⟩⟩
  have cr : ∀ k : Nat, 0 ≤ ct_c y k ∧ ct_c y k < 256 := fun k => ⟨Int.emod_nonneg _ (by decide), Int.emod_lt_of_pos _ (by decide)⟩
  -- the second loop
  have two : ct_ok y n (z W 1) → ∀ x4 : Int, x4 = n - 1 → wp_c10_append_69 L K z r A W y x4 Q := by
    intro hok x4 e4 P hP
    have key : ∀ (k : Nat) (z1 A1 : Nat → Nat → Int) (x : Int), x = (k : Int) - 1 → (k : Int) ≤ n → (∀ a, a ≠ W → z1 a = z a) → (∀ a, a ≠ r W 0 → A1 a = A a) → (∀ i, 0 ≤ A1 (r W 0) i ∧ A1 (r W 0) i < 65536) → z1 W 1 = z W 1 + (n - (k : Int)) → z1 W 4 = z W 4 → ((∀ i : Nat, (i : Int) < z W 1 → A1 (r W 0) i = A (r W 0) i) ∧ ∀ q : Nat, k ≤ q → (q : Int) < n → A1 (r W 0) (z W 1 + n - 1 - (q : Int)).toNat = ct_c y q) → P z1 A1 x := by
      intro k
      induction k with
      | zero =>
        intro z1 A1 x ex kn o oA hr a1 a4 hx9
        refine hP z1 A1 x ⟨by omega, fun _ => ?_, fun c => by omega⟩
        exact hQ1 hok z1 A1 o oA ⟨t1, t2, t3, by omega, by rw [a4]; exact t5, hr⟩ (by omega) ⟨hx9.1, fun q hq => hx9.2 q (Nat.zero_le q) hq⟩
      | succ k ih =>
        intro z1 A1 x ex kn o oA hr a1 a4 hx9
        have exk : x = (k : Int) := by omega
        subst exk
        refine hP z1 A1 k ⟨by omega, fun c => by omega, fun _ => ⟨t1, wq_c10_typedCharacter (by omega) (fun x9 e9 => ⟨t2, by omega, ?_, fun A2 e2 z2 ez x5 e5 => ?_⟩)⟩⟩
        · have := cr k; omega
        · have ck := cr k
          refine ih z2 A2 x5 (by omega) (by omega) (fun a ha => by rw [ez, cw_s_a ha]; exact o a ha) (fun a ha => by rw [e2, hz_s_a ha]; exact oA a ha) (fun i => ?_) (by rw [ez, cw_s_same]; omega) (by rw [ez, cw_s_k (by decide)]; exact a4) ⟨fun i hi => ?_, fun q q1 q2 => ?_⟩
          · rw [e2]
            by_cases hi : i = (z1 W 1).toNat
            · rw [hi, hz_s_same]; omega
            · rw [hz_s_i hi]; exact hr i
          · rw [e2, hz_s_i (by omega)]
            exact hx9.1 i hi
          · by_cases eq : q = k
            · rw [eq, e2, show (z W 1 + n - 1 - (k : Int)).toNat = (z1 W 1).toNat by omega, hz_s_same]
              omega
            · rw [e2, hz_s_i (by omega)]
              exact hx9.2 q (by omega) q2
    exact key n.toNat z A x4 (by omega) (by omega) (fun _ _ => rfl) (fun _ _ => rfl) t6 (by omega) rfl ⟨fun _ _ => rfl, fun q q1 q2 => by omega⟩
  intro P hP
  have key : ∀ (k j : Nat) (x : Int), j + (k : Int) = n → x = (j : Int) → (∀ i : Nat, i < j → 32 ≤ ct_c y i ∧ ct_c y i ≤ 126) → P x := by
    intro k
    induction k with
    | zero =>
      intro j x hk ex hc
      refine hP x ⟨by omega, hn, fun _ => ?_, fun c => by omega⟩
      exact two ⟨by omega, by omega, by omega, fun i hi => hc i (by omega)⟩
    | succ k ih =>
      intro j x hk ex hc
      subst ex
      have cj := cr j
      have bad : (ct_c y j < 32 ∨ 126 < ct_c y j) → wp_c10_append_56 L K z r A Q := fun h => hQ0 (fun hok => by have := hok.2.2.2 j (by omega); omega)
      refine hP j ⟨by omega, hn, fun c => by omega, fun _ => wq_c10_typedCharacter (by omega) ⟨by omega, fun c => bad (by omega), fun c => ⟨by omega, fun c2 x1 e1 => ?_, fun c2 => bad (by omega)⟩⟩⟩
      refine ih (j + 1) x1 (by omega) (by omega) (fun i hi => ?_)
      by_cases hij : i = j
      · rw [hij]; omega
      · exact hc i (by omega)
  exact key n.toNat 0 0 (by omega) rfl (fun i hi => by omega)
end CW
/-- neither the text nor a game is changed; of the HiddenMoves itself only what was printed -/
noncomputable def ci_D (ρ : Nat → Nat) (h : Nat) (z A z' A' : Nat → Nat → Int) : Prop := cF ρ (fun q => q = 0 ∨ (2 ≤ q ∧ q ≤ 16)) z A z' A' ∧ ∀ y, y ≠ 2 → z' h y = z h y
theorem ci_D_refl (ρ : Nat → Nat) (h : Nat) (z A : Nat → Nat → Int) : ci_D ρ h z A z A := ⟨cF_refl _ _ _ _, fun _ _ => rfl⟩
theorem ci_D_trans {ρ : Nat → Nat} {h : Nat} {z A z1 A1 z2 A2 : Nat → Nat → Int} (h1 : ci_D ρ h z A z1 A1) (h2 : ci_D ρ h z1 A1 z2 A2) : ci_D ρ h z A z2 A2 := ⟨cF_trans h1.1 h2.1, fun y hy => (h2.2 y hy).trans (h1.2 y hy)⟩
/-- game g is σ -/
noncomputable def sg_R (K : Nat → cw_K) (r : Nat → Nat → Nat) (g : Nat) (σ z A : Nat → Nat → Int) : Prop :=
  ((∀ i, i < 4 → A (r g 0) i = σ 0 i) ∧ sh_R K r g σ z A ∧ sv_R σ) ∧ (∀ t, t < 2 → z (cw_g K (r g 1) t) 0 = σ 1 t ∧ ∀ i : Nat, (i : Int) < σ 1 t → A (r (cw_g K (r g 1) t) 1) i = σ (10 + t) i ∧ A (r (cw_g K (r g 1) t) 2) i = σ (12 + t) i ∧ A (r (cw_g K (r g 1) t) 3) i = σ (14 + t) i ∧ A (r (cw_g K (r g 1) t) 4) i = σ (16 + t) i)
section CI
variable {L : List Nat} {K : Nat → cw_K} {r r' : Nat → Nat → Nat} {z A : Nat → Nat → Int} {w : Nat → Nat × Nat} {ρ : Nat → Nat} {S : Nat → Prop} {h g R : Nat} {σ : Nat → Nat → Int}
theorem sg_of (h : sc_R K r R σ z A ∧ sh_R K r (r R 3) σ z A ∧ sv_R σ) : sg_R K r (r R 3) σ z A := ⟨⟨h.1.1, h.2⟩, h.1.2.1⟩
theorem sh_keepF {z' A' : Nat → Nat → Int} (h2 : cg_2 L K r w ρ) (h7 : cg_7 L K r w ρ) (hg : cw_O L K 2 g) (hF : cF ρ S z A z' A') (hS : ¬ S (ρ g)) (hs : sh_R K r g σ z A) : sh_R K r g σ z' A' := by
  obtain ⟨a, b, c⟩ := hs
  obtain ⟨-, ⟨g2, g3, g4⟩, ⟨w1, w2, w3⟩⟩ := h2 g hg
  refine ⟨fun t ht => ?_, fun i j hi hj => ?_, by rw [(hF _ hS).1]; exact c⟩
  · obtain ⟨s1, s2, s3⟩ := g4 t ht
    obtain ⟨-, -, -, -, e6, e7⟩ := h7 _ s1
    rw [(hF _ (by rw [s3]; exact hS)).1, (hF _ (by rw [e6.2.2.2, s3]; exact hS)).2, (hF _ (by rw [e7.2.2.2, s3]; exact hS)).2]
    exact a t ht
  · rw [(hF _ (by rw [(w3 i hi).2.2.2]; exact hS)).2]
    exact b i j hi hj
theorem sh_r (hc : ∀ t a, cw_O L K t a → ¬ t = 5 → ¬ t = 11 → r' a = r a) (h2 : cg_2 L K r w ρ) (hg : cw_O L K 2 g) (hs : sh_R K r g σ z A) : sh_R K r' g σ z A := by
  obtain ⟨a, b, c⟩ := hs
  obtain ⟨-, ⟨g2, g3, g4⟩, -⟩ := h2 g hg
  have eg := hc 2 g hg (by decide) (by decide)
  refine ⟨fun t ht => ?_, by rw [eg]; exact b, c⟩
  rw [eg, hc 7 _ (g4 t ht).1 (by decide) (by decide)]
  exact a t ht
theorem sg_keepF {z' A' : Nat → Nat → Int} (h2 : cg_2 L K r w ρ) (h7 : cg_7 L K r w ρ) (hg : cw_O L K 2 g) (hF : cF ρ S z A z' A') (hS : ¬ S (ρ g)) (hs : sg_R K r g σ z A) : sg_R K r g σ z' A' := by
  obtain ⟨⟨a, sh, sv⟩, b⟩ := hs
  obtain ⟨g1, ⟨g2, g3, g4⟩, -⟩ := h2 g hg
  refine ⟨⟨fun i hi => by rw [(hF _ (by rw [g1.2.2.2]; exact hS)).2]; exact a i hi, sh_keepF h2 h7 hg hF hS sh, sv⟩, fun t ht => ?_⟩
  obtain ⟨s1, s2, s3⟩ := g4 t ht
  obtain ⟨e1, e2, e3, e4, -, -⟩ := h7 _ s1
  rw [(hF _ (by rw [s3]; exact hS)).1, (hF _ (by rw [e1.2.2.2, s3]; exact hS)).2, (hF _ (by rw [e2.2.2.2, s3]; exact hS)).2, (hF _ (by rw [e3.2.2.2, s3]; exact hS)).2, (hF _ (by rw [e4.2.2.2, s3]; exact hS)).2]
  exact b t ht
theorem sg_r (hc : ∀ t a, cw_O L K t a → ¬ t = 5 → ¬ t = 11 → r' a = r a) (h2 : cg_2 L K r w ρ) (hg : cw_O L K 2 g) (hs : sg_R K r g σ z A) : sg_R K r' g σ z A := by
  obtain ⟨⟨a, sh, sv⟩, b⟩ := hs
  obtain ⟨-, ⟨g2, g3, g4⟩, -⟩ := h2 g hg
  have eg := hc 2 g hg (by decide) (by decide)
  refine ⟨⟨by rw [eg]; exact a, sh_r hc h2 hg sh, sv⟩, fun t ht => ?_⟩
  rw [eg, hc 7 _ (g4 t ht).1 (by decide) (by decide)]
  exact b t ht
theorem wv_c11_type {y n : Int} (I : ci_I L K r w ρ z A h) (hn : hz_rI n) {Q : Int → (Nat → Nat → Int) → (Nat → Nat → Int) → Prop} (hQ1 : ct_ok y n (z (r (r h 0) 2) 1) → ∀ z' A' : Nat → Nat → Int, ci_I L K r w ρ z' A' h → z' (r (r h 0) 2) 1 = z (r (r h 0) 2) 1 + n → tx_R (A (r (r (r h 0) 2) 0)) (A' (r (r (r h 0) 2) 0)) (z (r (r h 0) 2) 1) n y → cF ρ (fun q => q = 1) z A z' A' → Q (z (r (r h 0) 2) 1 + n) z' A') (hQ0 : ¬ ct_ok y n (z (r (r h 0) 2) 1) → Q (-1) z A) : wp_c11_type L K z r A h y n Q := by
  have T := I.2.2.2.1
  obtain ⟨⟨a1, a2⟩, ⟨b1, b2⟩, ⟨c1, c2, c3⟩, -⟩ := id I.2.1
  have pg := I.2.1.2.2.2.2.2.2.2.2.2.2.2.2.2.2.1
  refine ⟨a1, b1, c1, wv_c10_append T hn (fun ok z1 A1 o1 a1' T1 l1 tx => ⟨by decide, fun c => absurd c (by decide), fun _ => ?_⟩) (fun no => ⟨by decide, fun _ => hQ0 no, fun c => absurd rfl c⟩)⟩
  show Q (z1 (r (r h 0) 2) 1) z1 A1
  rw [l1]
  have t2 := T.2.1
  refine hQ1 ok z1 A1 (ci_keep (S := fun q => q = 1) I (fun x hx => ⟨o1 x (fun e => hx (by rw [e]; exact c2)), a1' x (fun e => hx (by rw [e]; exact c3))⟩) ?_ (by have := pg.2; show ¬ ρ (r h 13) = 1; omega) (fun e => absurd e (by decide)) (fun _ => T1) (fun i hi e => by omega) (fun i hi e => by omega) (fun i hi e => by omega) (fun i hi e => by omega)) l1 tx (fun x hx => ⟨o1 x (fun e => hx (by rw [e]; exact c2)), a1' x (fun e => hx (by rw [e]; exact c3))⟩)
  have J := I.2.2.1
  have nd := cd_dig J.1 t2 (by decide)
  refine ⟨⟨⟨fun b hb => ⟨(J.1.1.1 b hb).1, (J.1.1.1 b hb).2.1, by rw [a1' _ (nd b hb)]; exact (J.1.1.1 b hb).2.2⟩, J.1.1.2⟩, fun b hb => ?_⟩, fun x => ?_⟩
  · have := J.1.2 b hb
    unfold cb_k at this ⊢
    rw [o1 b (cw_O_ne hb c1 (by decide)), a1' _ (nd b hb)]
    exact this
  · by_cases hx : x = r (r (r h 0) 2) 0
    · subst hx
      refine ⟨fun q => ?_, fun q => ?_, fun _ => T1.2.2.2.2.2, fun q => ?_⟩
      · have := cw_A_ne q t2; omega
      · have := cw_A_ne q t2; omega
      · have := cw_A_ne q t2; omega
    · rw [a1' x hx]; exact J.2 x
theorem wv_c11_print {y : Int} (I : ci_I L K r w ρ z A h) (hy : hz_rI y) {Q : Int → (Nat → Nat → Int) → (Nat → Nat → Int) → Prop} (hQ : ∀ (x : Int) (z' A' : Nat → Nat → Int), ci_I L K r w ρ z' A' h → z' (r (r h 0) 2) 1 = z (r (r h 0) 2) 1 → ci_D ρ h z A z' A' → Q x z' A') : wp_c11_print L K z r A h y Q := by
  obtain ⟨hdg, h1, h2, h3, h4, h6, h7, h8, h9⟩ := id I.1
  obtain ⟨⟨a1, a2⟩, ⟨b1, b2⟩, ⟨c1, c2, c3⟩, ⟨d1, d2, d3, d4⟩, -, -, -, -, -, -, ⟨l1, l2, l3⟩, -⟩ := id I.2.1
  have g := ci_g I
  refine ⟨a1, wq_c11_isKnown I hy (fun hy4 hg => ⟨by decide, fun _ => ⟨l1, by omega, (l3 _ (by omega)).1, ?_⟩, fun c => absurd c (by decide)⟩) ⟨by decide, fun c => absurd rfl c, fun _ => hQ _ z A I rfl (ci_D_refl _ _ _ _)⟩⟩
  obtain ⟨R1, R2⟩ := l3 y.toNat (by omega)
  obtain ⟨S9, hS⟩ : ∃ S9 : Nat → Prop, S9 = fun q => q = 0 ∨ q = 12 + y.toNat := ⟨_, rfl⟩
  refine wq_c4_write (S := S9) I.2.2.1 h1 h4 R1 (by rw [hS, R2]; exact Or.inr rfl) d1 (by omega) (by rw [hS, d4, a2]; exact Or.inl rfl) (fun v z1 A1 j1 F1 o1 hv z2 e2 => ?_)
  have F2 : cF ρ S9 z A z2 A1 := cF_trans F1 (by rw [e2]; exact cF_s (by rw [hS, a2]; exact Or.inl rfl))
  have j2 : cJ L K r z2 A1 := ⟨cb_all_z j1.1 (fun q hq => by rw [e2, cw_s_a (cw_O_ne hq a1 (by decide))]), j1.2⟩
  have hh : z1 h = z h := o1 h (cw_O_ne a1 (h4 _ R1).2.2.1.1 (by decide))
  have q15 := I.2.2.2.2.2.2.2.2.2.2.2
  have res : ∀ i, i < 4 → z2 (cw_g K (r h 9) i) 2 = z (cw_g K (r h 9) i) 2 := fun i hi => by
    rw [e2, cw_s_a (cw_O_ne (l3 i hi).1 a1 (by decide)), o1 _ (cw_O_ne (l3 i hi).1 (h4 _ R1).2.2.1.1 (by decide))]
  refine hQ _ z2 A1 (ci_keep I F2 j2 (by rw [hS]; show ¬ (ρ (r h 13) = 0 ∨ ρ (r h 13) = 12 + y.toNat); omega) (fun _ => ⟨by rw [e2, cw_s_k (by decide), hh], by rw [e2, cw_s_same]; omega, by rw [e2, cw_s_k (by decide), hh]; exact q15⟩) (fun s => by rw [hS] at s; rcases s with s | s <;> omega) (fun i hi s => by rw [hS] at s; rcases s with s | s <;> omega) (fun i hi s => by rw [hS] at s; rcases s with s | s <;> omega) (fun i hi s => by rw [hS] at s; rcases s with s | s <;> omega) (fun i hi _ => by rw [res i hi]; exact I.2.2.2.2.2.2.2.2.2.1 i hi)) ?_ ⟨cF_mono F2 (fun q hq => by rw [hS] at hq; rcases hq with hq | hq <;> omega), fun yy hyy => by rw [e2, cw_s_k hyy, hh]⟩
  rw [e2, cw_s_a (cw_O_ne c1 a1 (by decide)), o1 _ (cw_O_ne c1 (h4 _ R1).2.2.1.1 (by decide))]
theorem wv_c11_compare {x y : Int} (I : ci_I L K r w ρ z A h) (hx : hz_rI x) (hy : hz_rI y) {Q : Int → (Nat → Nat → Int) → (Nat → Nat → Int) → Prop} (hQ : ∀ (v : Int) (z' A' : Nat → Nat → Int), ci_I L K r w ρ z' A' h → z' (r (r h 0) 2) 1 = z (r (r h 0) 2) 1 → ci_D ρ h z A z' A' → Q v z' A') : wp_c11_compare L K z r A h x y Q := by
  obtain ⟨hdg, h1, h2, h3, h4, h6, h7, h8, h9⟩ := id I.1
  obtain ⟨⟨a1, a2⟩, -, ⟨c1, c2, c3⟩, -, -, -, -, -, -, -, ⟨l1, l2, l3⟩, -⟩ := id I.2.1
  have g := ci_g I
  have no : wp_c11_compare_34 L K z r A Q := hQ _ z A I rfl (ci_D_refl _ _ _ _)
  refine ⟨a1, wq_c11_isKnown I hx (fun hx4 _ => ⟨by decide, fun c => absurd c (by decide), fun _ => wq_c11_isKnown I hy (fun hy4 _ => ⟨by decide, fun c => absurd c (by decide), fun _ => ⟨l1, by omega, by omega, (l3 _ (by omega)).1, ?_⟩⟩) ⟨by decide, fun _ => no, fun c => absurd rfl c⟩⟩) ⟨by decide, fun _ => no, fun c => absurd rfl c⟩⟩
  obtain ⟨R1, R2⟩ := l3 x.toNat (by omega)
  obtain ⟨S9, hS⟩ : ∃ S9 : Nat → Prop, S9 = fun q => q = 12 + x.toNat := ⟨_, rfl⟩
  refine wq_c4_order (S := S9) I.2.2.1 h1 h4 R1 (l3 y.toNat (by omega)).1 (by rw [hS]; exact R2) (fun v z1 A1 j1 F1 _ o1 => ?_)
  have nf : ∀ q, cw_O L K 4 q → z1 q = z q := fun q hq => o1 q (cw_O_ne hq (h4 _ R1).2.2.1.1 (by decide)) (cw_O_ne hq (h4 _ R1).2.2.2.1.1 (by decide))
  refine hQ v z1 A1 (ci_keep I F1 j1 (by rw [hS]; show ¬ (ρ (r h 13) = 12 + x.toNat); omega) (fun s => by rw [hS] at s; omega) (fun s => by rw [hS] at s; omega) (fun i hi s => by rw [hS] at s; omega) (fun i hi s => by rw [hS] at s; omega) (fun i hi s => by rw [hS] at s; omega) (fun i hi _ => by rw [nf _ (l3 i hi).1]; exact I.2.2.2.2.2.2.2.2.2.1 i hi)) ?_ ⟨cF_mono F1 (fun q hq => by rw [hS] at hq; omega), fun yy _ => by rw [(F1 h (by rw [hS, a2]; show ¬ (0 = 12 + x.toNat); omega)).1]⟩
  rw [(F1 _ (by rw [hS, c2]; show ¬ (1 = 12 + x.toNat); omega)).1]
theorem wv_c11_getsValue {p : Int} (I : ci_I L K r w ρ z A h) (hp : p = 0 ∨ p = 1) (hg : z h 14 = 1) {Q : Int → (Nat → Nat → Int) → (Nat → Nat → Int) → Prop} (hQ : ∀ (x : Int) (z' A' : Nat → Nat → Int), (x = 0 ∨ x = 1) → ci_I L K r w ρ z' A' h → z' h = z h → z' (r (r h 0) 2) 1 = z (r (r h 0) 2) 1 → ci_D ρ h z A z' A' → Q x z' A') : wp_c11_getsValue L K z r A h p Q := by
  obtain ⟨hdg, h1, h2, h3, h4, h6, h7, h8, h9⟩ := id I.1
  obtain ⟨⟨a1, a2⟩, -, ⟨c1, c2, c3⟩, -, -, -, -, ⟨i1, i2, i3⟩, -, ⟨k1, k2⟩, ⟨l1, l2, l3⟩, ⟨m1, m2⟩, -⟩ := id I.2.1
  have g := ci_g I
  obtain ⟨s1, s2, s3⟩ := ci_side (p := p + 1) I (by omega) hg
  rw [show p + 1 - 1 = p by omega] at s3
  obtain ⟨f1, f2⟩ := i3 p.toNat (by omega)
  have hF := I.2.2.2.2.2.1 hg
  have M := I.2.2.2.2.2.2.2.2.1 p.toNat (by omega)
  obtain ⟨-, ⟨t1, t2, t3⟩, -⟩ := h2 _ hF.1
  have sS := (t3 p.toNat (by omega)).2.2
  obtain ⟨Sa, hSa⟩ : ∃ Sa : Nat → Prop, Sa = fun q => q = 7 + p.toNat := ⟨_, rfl⟩
  have frame : ∀ (S9 : Nat → Prop) (z1 A1 : Nat → Nat → Int), (∀ q, S9 q → q = 7 + p.toNat ∨ q = 11 ∨ q = 16) → cF ρ S9 z A z1 A1 → cJ L K r z1 A1 → cm_M K r z1 A1 (r (cw_g K (r h 6) p.toNat) 0) cz_M → ci_I L K r w ρ z1 A1 h ∧ z1 h = z h ∧ z1 (r (r h 0) 2) 1 = z (r (r h 0) 2) 1 ∧ ci_D ρ h z A z1 A1 := by
    intro S9 z1 A1 hS9 F1 j1 M1
    have n : ∀ q, ¬ (q = 7 + p.toNat ∨ q = 11 ∨ q = 16) → ¬ S9 q := fun q hq s => hq (hS9 q s)
    refine ⟨ci_keep I F1 j1 (n _ (by omega)) (fun s => absurd s (n 0 (by omega))) (fun s => absurd s (n 1 (by omega))) (fun i hi s => absurd s (n _ (by omega))) (fun i hi s => absurd s (n _ (by omega))) (fun i hi s => ?_) (fun i hi s => ?_), (F1 h (n _ (by omega))).1, by rw [(F1 (r (r h 0) 2) (n _ (by omega))).1], cF_mono F1 (fun q hq => by have := hS9 q hq; omega), fun y _ => by rw [(F1 h (n _ (by omega))).1]⟩
    · have := hS9 _ s
      have : i = p.toNat := by omega
      rw [this]; exact M1
    · have := hS9 _ s
      omega
  refine ⟨a1, i1, by omega, hF.1, s1, by omega, f1, wq_c3_isMix (S := Sa) (M := cz_M) I.2.2.1 h1 h3 h7 f1 (by rw [hSa, f2]) s3 (by rw [hSa, sS]; show ¬ (ρ (r h 13) = 7 + p.toNat); omega) M (Int.le_of_lt cz_M_pos) cz_M_mix (fun x z1 A1 j1 F1 o1 oA1 hx => ⟨by omega, fun _ => ?_, fun _ => ?_⟩)⟩
  · have M1 : cm_M K r z1 A1 (r (cw_g K (r h 6) p.toNat) 0) cz_M := by
      intro i hi
      obtain ⟨⟨y1, y2, y3, y4⟩, ⟨u1, u2, u3, u4⟩⟩ := h3 _ f1
      have gr : r (cw_g K (r h 6) p.toNat) 0 ≠ cw_g K (r h 6) p.toNat := Ne.symm (cw_OG_ne f1 y1)
      have ne : cw_g K (r (cw_g K (r h 6) p.toNat) 0) i ≠ r (cw_g K (r h 6) p.toNat) 1 := cg_ne (y4 i hi).2.2.1 u3 (fun e => gr e.1)
      rw [(cb_k_other I.2.2.1.1.1 u1 (y4 i hi).1 ne ⟨o1, oA1⟩).2.1]
      exact M i hi
    obtain ⟨I1, zh1, zw1, dd1⟩ := frame Sa z1 A1 (fun q hq => by rw [hSa] at hq; omega) F1 j1 M1
    have hg1 : z1 h 14 = 1 := by rw [zh1]; exact hg
    have hF1 := I1.2.2.2.2.2.1 hg1
    refine ⟨by omega, k1, ?_⟩
    refine wq_c6_work (S := fun q => q = 11) (M := cz_M) j1 hdg h1 h2 h3 h6 h7 k1 k2 hF1 (by show ¬ ρ (r h 13) = 11; omega) (by omega) f1 (by rw [f2]; omega) M1 (Int.le_of_lt cz_M_pos) cz_M_work (fun z2 A2 j2 F2 => ?_)
    have M2 : cm_M K r z2 A2 (r (cw_g K (r h 6) p.toNat) 0) cz_M := by
      intro i hi
      obtain ⟨⟨y1, y2, y3, y4⟩, -⟩ := h3 _ f1
      rw [(cF_big h1 F2 (y4 i hi).1 (by rw [(y4 i hi).2.2.2, f2]; omega)).1]
      exact M1 i hi
    obtain ⟨⟨y1, y2, y3, y4⟩, -⟩ := h3 _ f1
    obtain ⟨-, -, ⟨n1, n2, n3, n4⟩, -, -⟩ := h6 _ k1
    refine wq_c6_worth h6 k1 ⟨by omega, y1, by omega, m1, ?_⟩
    show wp_c4_put L K z2 r A2 (r h 10) (cw_g K (r (r h 8) 2) 0) (cw_g K (r (cw_g K (r h 6) p.toNat) 0) 0) (z2 (r h 13) 2) _
    have lg := (j2.1.2 _ (n4 0 (by omega)).1).1
    have lp := (j2.1.2 _ (y4 0 (by omega)).1).1
    have ln := (n4 0 (by omega)).2.1
    have lq := (y4 0 (by omega)).2.1
    refine wq_c4_put (S := fun q => q = 16) j2 h1 h4 m1 m2 (n4 0 (by omega)).1 (y4 0 (by omega)).1 (by rw [(n4 0 (by omega)).2.2.2, k2, m2]; decide) (by rw [(y4 0 (by omega)).2.2.2, f2, m2]; omega) (by omega) (by omega) (fun z3 A3 j3 F3 _ => ⟨l1, by omega, ?_⟩)
    refine wq_c4_order (S := fun q => q = 16) j3 h1 h4 m1 (l3 0 (by omega)).1 m2 (fun o z4 A4 j4 F4 ho _ => ?_)
    have F : cF ρ (fun q => q = 7 + p.toNat ∨ q = 11 ∨ q = 16) z A z4 A4 := cF_trans (cF_trans (cF_trans (cF_mono F1 (fun q hq => by rw [hSa] at hq; exact Or.inl hq)) (cF_mono F2 (fun q hq => Or.inr (Or.inl hq)))) (cF_mono F3 (fun q hq => Or.inr (Or.inr hq)))) (cF_mono F4 (fun q hq => Or.inr (Or.inr hq)))
    have M4 : cm_M K r z4 A4 (r (cw_g K (r h 6) p.toNat) 0) cz_M := by
      intro i hi
      rw [(cF_big h1 (cF_trans F3 F4) (y4 i hi).1 (by rw [(y4 i hi).2.2.2, f2]; omega)).1]
      exact M2 i hi
    obtain ⟨I4, zh4, zw4, dd4⟩ := frame _ z4 A4 (fun q hq => hq) F j4 M4
    exact ⟨by omega, fun _ => ⟨by omega, hQ 0 z4 A4 (by omega) I4 zh4 zw4 dd4⟩, fun _ => ⟨by omega, hQ 1 z4 A4 (by omega) I4 zh4 zw4 dd4⟩⟩
  · have M1 : cm_M K r z1 A1 (r (cw_g K (r h 6) p.toNat) 0) cz_M := by
      intro i hi
      obtain ⟨⟨y1, y2, y3, y4⟩, ⟨u1, u2, u3, u4⟩⟩ := h3 _ f1
      have gr : r (cw_g K (r h 6) p.toNat) 0 ≠ cw_g K (r h 6) p.toNat := Ne.symm (cw_OG_ne f1 y1)
      have ne : cw_g K (r (cw_g K (r h 6) p.toNat) 0) i ≠ r (cw_g K (r h 6) p.toNat) 1 := cg_ne (y4 i hi).2.2.1 u3 (fun e => gr e.1)
      rw [(cb_k_other I.2.2.1.1.1 u1 (y4 i hi).1 ne ⟨o1, oA1⟩).2.1]
      exact M i hi
    obtain ⟨I1, zh1, zw1, dd1⟩ := frame Sa z1 A1 (fun q hq => by rw [hSa] at hq; omega) F1 j1 M1
    exact hQ 0 z1 A1 (by omega) I1 zh1 zw1 dd1
theorem wv_c11_check (I : ci_I L K r w ρ z A h) {Q : Int → (Nat → Nat → Int) → (Nat → Nat → Int) → Prop} (hQ : ∀ (x : Int) (z' A' : Nat → Nat → Int), ci_I L K r w ρ z' A' h → z' (r (r h 0) 2) 1 = z (r (r h 0) 2) 1 → ci_D ρ h z A z' A' → Q x z' A') : wp_c11_check L K z r A h Q := by
  obtain ⟨⟨a1, a2⟩, -, -, -, -, -, -, -, -, -, ⟨l1, l2, l3⟩, -⟩ := id I.2.1
  have R := I.2.2.2.2.2.2.2.2.2.1 0 (by omega)
  have no : ∀ z1 A1 : Nat → Nat → Int, ci_I L K r w ρ z1 A1 h → z1 (r (r h 0) 2) 1 = z (r (r h 0) 2) 1 → ci_D ρ h z A z1 A1 → wp_c11_check_34 L K z1 r A1 Q := fun z1 A1 I1 e1 d1 => hQ _ z1 A1 I1 e1 d1
  refine ⟨a1, l1, by omega, (l3 0 (by omega)).1, ?_, fun c => ?_, fun _ => hQ _ z A I rfl (ci_D_refl _ _ _ _)⟩
  · show hz_rI (z (cw_g K (r h 9) 0) 2); omega
  · have c : ¬ z (cw_g K (r h 9) 0) 2 = 0 := c
    have hg : z h 14 = 1 := R.2 (by omega)
    refine wv_c11_getsValue I (Or.inl rfl) hg (fun x z1 A1 hx I1 zh1 zw1 dd1 => ⟨by omega, fun _ => no z1 A1 I1 zw1 dd1, fun _ => ?_⟩)
    refine wv_c11_getsValue I1 (Or.inr rfl) (by rw [zh1]; exact hg) (fun y z2 A2 hy I2 zh2 zw2 dd2 => ⟨by omega, fun _ => no z2 A2 I2 (zw2.trans zw1) (ci_D_trans dd1 dd2), fun _ => hQ _ z2 A2 I2 (zw2.trans zw1) (ci_D_trans dd1 dd2)⟩)
theorem wv_c11_read {T9 : sp_T} {ps : Nat → Nat} {nt : Nat} (TK : tk_T (A (r (r (r h 0) 2) 0)) (z (r (r h 0) 2) 1).toNat T9 ps nt) (C : ci_C L K r w ρ z A h) {Q : Int → (Nat → Nat → Int) → (Nat → Nat → Nat) → (Nat → Nat → Int) → Prop} (hQ : ∀ (v : Int) (z' : Nat → Nat → Int) (r' : Nat → Nat → Nat) (A' : Nat → Nat → Int), ci_C L K r' w ρ z' A' h → z' (r' (r' h 0) 2) 1 = 0 → sp_R T9 (z (r (r h 0) 2) 1) v (z' h 15) → (v = 0 → z' h 14 = 1 ∧ ∃ σ, sp_G T9 σ ∧ sg_R K r' (r' h 13) σ z' A') → (¬ v = 0 → z' h 14 = z h 14 ∧ ∀ σ, sg_R K r (r h 13) σ z A → sg_R K r' (r' h 13) σ z' A') → Q v z' r' A') : wp_c11_read L K z r A h Q := by
  have X := ci_X C
  obtain ⟨I, S3⟩ := id C
  obtain ⟨S1, S2, J, T, g1, g2, W, Tt, M, Rr, q2, q15⟩ := id I
  obtain ⟨hdg, h1, h2, h3, h4, h6, h7, h8, h9⟩ := id S1
  obtain ⟨⟨a1, a2⟩, ⟨b1, b2⟩, ⟨c1, c2, c3⟩, ⟨d1, d2, d3, d4⟩, ⟨e1, e2⟩, f, g, i, j, ⟨k1, k2⟩, l, ⟨m1, m2⟩, n, o, ⟨p1, p2⟩, ⟨q1, qb, q3⟩⟩ := id S2
  have neW : h ≠ r (r h 0) 2 := cw_O_ne a1 c1 (by decide)
  have neR : r h 0 ≠ h := cw_O_ne b1 a1 (by decide)
  have neG : r h 13 ≠ h := cw_O_ne p1 a1 (by decide)
  have cqr : ∀ q, cq_r r ρ (r h 0) q → q = 1 ∨ (17 ≤ q ∧ q ≠ ρ (r h 13)) := by
    intro q hq
    rcases hq with hq | hq
    · exact Or.inl (by rw [hq, b2])
    · exact Or.inr ⟨by omega, by omega⟩
  -- what both ends have in common
  have com : ∀ (z3 A4 z6 z8 : Nat → Nat → Int), cF ρ (cq_r r ρ (r h 0)) z A z3 A4 → cJ L K r z3 A4 → cl_T L K r z3 A4 (r (r h 0) 2) → hz_rI (z3 (r h 0) 0) → z6 = cw_s z3 h 15 (z3 (r h 0) 0) → z8 = cw_s z6 (r (r h 0) 2) 1 0 → ci_C L K r w ρ z8 A4 h ∧ z8 (r (r h 0) 2) 1 = 0 ∧ cF ρ (fun q => q = 0 ∨ q = 1) z3 A4 z8 A4 := by
    intro z3 A4 z6 z8 F3 J3 T3 r0 e6 e8
    have F6 : cF ρ (fun q => q = 0 ∨ q = 1) z3 A4 z6 A4 := by rw [e6]; exact cF_s (by rw [a2]; exact Or.inl rfl)
    have F68 : cF ρ (fun q => q = 0 ∨ q = 1) z6 A4 z8 A4 := by rw [e8]; exact cF_s (by rw [c2]; exact Or.inr rfl)
    have F8 : cF ρ (fun q => q = 0 ∨ q = 1) z3 A4 z8 A4 := cF_trans F6 F68
    have zh : z3 h = z h := (F3 h (fun q => by have := cqr _ q; omega)).1
    have zh8 : ∀ y, y ≠ 15 → z8 h y = z h y := fun y hy => by rw [e8, cw_s_a neW, e6, cw_s_k hy, zh]
    have J8 : cJ L K r z8 A4 := cJ_z J3 (fun b hb => by rw [e8, cw_s_a (cw_O_ne hb c1 (by decide)), e6, cw_s_a (cw_O_ne hb a1 (by decide))])
    have T8 : cl_T L K r z8 A4 (r (r h 0) 2) := by
      obtain ⟨t1, t2, t3, t4, t5, t6⟩ := T3
      refine ⟨t1, t2, t3, by rw [e8, cw_s_same]; decide, by rw [e8, cw_s_k (by decide), e6, cw_s_a (Ne.symm neW)]; exact t5, t6⟩
    refine ⟨⟨ci_keep (S := fun q => q = 0 ∨ cq_r r ρ (r h 0) q) I ?_ J8 (fun q => ?_) (fun _ => ⟨zh8 14 (by decide), by rw [zh8 2 (by decide)]; exact q2, by rw [e8, cw_s_a neW, e6, cw_s_same]; exact r0⟩) (fun _ => T8) (fun t ht q => ?_) (fun t ht q => ?_) (fun t ht q => ?_) (fun t ht q => ?_), S3⟩, by rw [e8, cw_s_same], F8⟩
    · exact cF_trans (cF_mono F3 (fun q hq => Or.inr hq)) (cF_mono F8 (fun q hq => by
        rcases hq with hq | hq
        · exact Or.inl hq
        · exact Or.inr (Or.inl (by rw [hq, b2]))))
    · rcases q with q | q
      · omega
      · have := cqr _ q; omega
    · rcases q with q | q
      · omega
      · have := cqr _ q; omega
    · rcases q with q | q
      · omega
      · have := cqr _ q; omega
    · rcases q with q | q
      · omega
      · have := cqr _ q; omega
    · rcases q with q | q
      · omega
      · have := cqr _ q; omega
  refine ⟨a1, b1, wv_c5_understand TK X J T (fun z3 A4 F3 J3 T3 r0 G3 hGG z6 e6 => ⟨c1, fun z8 e8 => ⟨by decide, fun q => absurd rfl q, fun _ => ⟨b1, fun r1 er1 r2 er2 z9 e9 => ?_⟩⟩⟩) (fun z3 A4 e hRR z6 e6 => ⟨c1, fun z8 e8 => ⟨e.2.2.2.2.1, fun _ => ?_, fun q => absurd q e.2.2.2.1⟩⟩)⟩
  · obtain ⟨⟨I8, -⟩, w8, F8⟩ := com z3 A4 z6 z8 F3 J3 T3 (by rw [r0]; decide) e6 e8
    have J8 := I8.2.2.1
    have hc : ∀ t a, cw_O L K t a → ¬ t = 5 → ¬ t = 11 → r2 a = r a := fun t a ha t5 t11 => by rw [er2, cw_s_a (cw_O_ne ha a1 t11), er1, cw_s_a (cw_O_ne ha b1 t5)]
    have rh : ∀ y, y ≠ 13 → r2 h y = r h y := fun y hy => by rw [er2, cw_s_k hy, er1, cw_s_a (Ne.symm neR)]
    have rh13 : r2 h 13 = r (r h 0) 3 := by rw [er2, cw_s_same]
    have rR : ∀ y, y ≠ 3 → r2 (r h 0) y = r (r h 0) y := fun y hy => by rw [er2, cw_s_a neR, er1, cw_s_k hy]
    have rR3 : r2 (r h 0) 3 = r h 13 := by rw [er2, cw_s_a neR, er1, cw_s_same]
    have S1' := ci_S1_r hc S1
    have J9 : cJ L K r2 z9 A4 := cJ_r hc (cJ_z J8 (fun b hb => by rw [e9, cw_s_a (cw_O_ne hb a1 (by decide))]))
    have l' : ci_R L K ρ 5 4 4 (r2 h 9) 12 := by rw [rh 9 (by decide)]; exact l
    have f' : ci_R L K ρ 9 9 2 (r2 h 4) 3 := by rw [rh 4 (by decide)]; exact f
    refine wq_c11_startAnew J9 S1'.1 S1'.2.2.2.2.2.2.2.2 a1 l' f' (fun z10 A5 J10 F10 hk hw => ?_)
    have F9 : cF ρ (fun q => q = 0) z8 A4 z9 A4 := by rw [e9]; exact cF_s a2
    have F310 : cF ρ (fun q => q ≤ 16) z3 A4 z10 A5 := cF_trans (cF_trans (cF_mono F8 (fun q hq => by omega)) (cF_mono F9 (fun q hq => by omega))) (cF_mono F10 (fun q hq => by omega))
    have zh10 : z10 h = z9 h := (F10 h (by rw [a2]; omega)).1
    have zh9 : ∀ y, y ≠ 14 → z10 h y = z8 h y := fun y hy => by rw [zh10, e9, cw_s_k hy]
    have zW : z10 (r (r h 0) 2) = z8 (r (r h 0) 2) := by rw [(F10 _ (by rw [c2]; omega)).1, e9, cw_s_a (Ne.symm neW)]
    have aW : A5 (r (r (r h 0) 2) 0) = A4 (r (r (r h 0) 2) 0) := (F10 _ (by rw [c3]; omega)).2
    have eW : r2 (r (r h 0) 2) = r (r (r h 0) 2) := hc 10 _ c1 (by decide) (by decide)
    have T10 : cl_T L K r2 z10 A5 (r2 (r2 h 0) 2) := by
      rw [rh 0 (by decide), rR 2 (by decide)]
      have t := I8.2.2.2.1
      unfold cl_T at t ⊢
      rw [eW, zW, aW]
      exact t
    have G10 : cg_F L K r2 z10 A5 (r2 h 13) := by
      rw [rh13]
      exact cg_F_r hc (cg_F_keep h2 h7 G3 F310 (by show ¬ ρ (r (r h 0) 3) ≤ 16; omega))
    have F810 : cF ρ (fun q => q = 0 ∨ q = 3 ∨ q = 4 ∨ (12 ≤ q ∧ q ≤ 15)) z8 A4 z10 A5 := cF_trans (cF_mono F9 (fun q hq => Or.inl hq)) (cF_mono F10 (fun q hq => Or.inr hq))
    refine hQ 0 z10 r2 A5 ⟨⟨S1', ⟨⟨a1, a2⟩, ?_, ?_, ?_, ?_, f', ?_, ?_, ?_, ?_, l', ?_, ?_, ?_, ?_, ?_⟩, J10, T10, ?_, fun _ => G10, hw, ?_, ?_, ?_, ?_, ?_⟩, ?_⟩ ?_ ?_ (fun _ => ⟨?_, ?_⟩) (fun q => absurd rfl q)
    · rw [rh 0 (by decide)]; exact ⟨b1, b2⟩
    · rw [rh 0 (by decide), rR 2 (by decide), eW]; exact ⟨c1, c2, c3⟩
    · unfold cg_A; rw [rh 1 (by decide)]; exact ⟨d1, d2, d3, d4⟩
    · rw [rh 3 (by decide)]; exact ⟨e1, e2⟩
    · rw [rh 5 (by decide)]; exact g
    · rw [rh 6 (by decide)]; exact i
    · rw [rh 7 (by decide)]; exact j
    · rw [rh 8 (by decide)]; exact ⟨k1, k2⟩
    · rw [rh 10 (by decide)]; exact ⟨m1, m2⟩
    · have n' := n
      unfold cg_B at n' ⊢
      rw [rh 11 (by decide), hc 0 _ n'.1 (by decide) (by decide)]; exact n'
    · have n' := o
      unfold cg_B at n' ⊢
      rw [rh 12 (by decide), hc 0 _ n'.1 (by decide) (by decide)]; exact n'
    · rw [rh13]; exact ⟨q1, qb⟩
    · rw [rh 0 (by decide), rR3, rh13]; exact ⟨p1, p2, fun q => q3 q.symm⟩
    · exact Or.inr (by rw [zh10, e9, cw_s_same])
    · intro t ht x hx
      rw [rh 5 (by decide)]
      have gm := g.2.2 t ht
      rw [hc 3 _ gm.1 (by decide) (by decide)]
      obtain ⟨⟨y1, y2, y3, y4⟩, -⟩ := h3 _ gm.1
      rw [(F810 _ (by rw [(y4 x hx).2.2.2, gm.2]; omega)).1]
      exact I8.2.2.2.2.2.2.2.1 t ht x hx
    · intro t ht x hx
      rw [rh 6 (by decide)]
      have gm := i.2.2 t ht
      rw [hc 3 _ gm.1 (by decide) (by decide)]
      obtain ⟨⟨y1, y2, y3, y4⟩, -⟩ := h3 _ gm.1
      have q := (cF_big h1 F810 (y4 x hx).1 (by rw [(y4 x hx).2.2.2, gm.2]; omega)).1
      have q' := I8.2.2.2.2.2.2.2.2.1 t ht x hx
      unfold cb_u at q q' ⊢
      rw [hc 0 _ (y4 x hx).1 (by decide) (by decide), q]
      exact q'
    · intro t ht
      have := hk t ht
      exact ⟨Or.inl this, fun q => by omega⟩
    · rw [zh9 2 (by decide)]; exact I8.2.2.2.2.2.2.2.2.2.2.1
    · rw [zh9 15 (by decide)]; exact I8.2.2.2.2.2.2.2.2.2.2.2
    · unfold ci_S3 cg_A at S3 ⊢
      rw [rh 0 (by decide), rR 4 (by decide), rR 9 (by decide), rR 10 (by decide), rR 11 (by decide), rR 12 (by decide)]
      exact S3
    · rw [rh 0 (by decide), rR 2 (by decide), zW]
      exact w8
    · obtain ⟨σ, -, hσ⟩ := hGG
      have p15 : z10 h 15 = -1 := by rw [zh9 15 (by decide), e8, cw_s_a neW, e6, cw_s_same]; exact r0
      rw [p15]
      exact sp_G_R hσ _
    · rw [zh10, e9, cw_s_same]
    · obtain ⟨σ, hs, hσ⟩ := hGG
      refine ⟨σ, hσ, ?_⟩
      rw [rh13]
      exact sg_r hc h2 X.2.2.2.1 (sg_keepF h2 h7 X.2.2.2.1 F310 (by show ¬ ρ (r (r h 0) 3) ≤ 16; omega) (sg_of hs))
  · obtain ⟨C8, w8, F8⟩ := com z3 A4 z6 z8 e.1 e.2.1 e.2.2.1 e.2.2.2.2.2 e6 e8
    have p15 : z8 h 15 = z3 (r h 0) 0 := by rw [e8, cw_s_a neW, e6, cw_s_same]
    have zh : z3 h = z h := (e.1 h (fun q => by have := cqr _ q; omega)).1
    refine hQ _ z8 r A4 C8 w8 (by rw [p15]; exact hRR) (fun q => absurd q e.2.2.2.1) (fun _ => ⟨by rw [e8, cw_s_a neW, e6, cw_s_k (by decide), zh], fun σ hs => sg_keepF (S := fun q => (q = 0 ∨ q = 1) ∨ cq_r r ρ (r h 0) q) h2 h7 p1 (cF_trans (cF_mono e.1 (fun q hq => Or.inr hq)) (cF_mono F8 (fun q hq => Or.inl hq))) (fun q => ?_) hs⟩)
    rcases q with q | q
    · omega
    · have := cqr _ q
      omega
end CI
