/-- n characters of y behind a text of l characters -/
noncomputable def tx_R (f f' : Nat → Int) (l n y : Int) : Prop := (∀ i : Nat, (i : Int) < l → f' i = f i) ∧ ∀ q : Nat, (q : Int) < n → f' (l + n - 1 - (q : Int)).toNat = ct_c y q
section CW
variable {L : List Nat} {K : Nat → cw_K} {r : Nat → Nat → Nat} {z A : Nat → Nat → Int} {W : Nat}
theorem wv_c10_append {y n : Int} (hT : cl_T L K r z A W) (hn : hz_rI n) {Q : Int → (Nat → Nat → Int) → (Nat → Nat → Int) → Prop} (hQ1 : ct_ok y n (z W 1) → ∀ z' A' : Nat → Nat → Int, (∀ a, a ≠ W → z' a = z a) → (∀ a, a ≠ r W 0 → A' a = A a) → cl_T L K r z' A' W → z' W 1 = z W 1 + n → tx_R (A (r W 0)) (A' (r W 0)) (z W 1) n y → Q 1 z' A') (hQ0 : ¬ ct_ok y n (z W 1) → Q 0 z A) : wp_c10_append L K z r A W y n Q := by
  obtain ⟨t1, t2, t3, t4, t5, t6⟩ := hT
  have no : ¬ ct_ok y n (z W 1) → wp_c10_append_23 L K z r A Q := hQ0
  refine ⟨hn, fun c => no (fun h => by have := h.1; omega), fun c1 => ⟨hn, fun c => no (fun h => by have := h.2.1; omega), fun c2 => ⟨t1, by omega, fun c3 => ?_, fun c3 => no (fun h => by have := h.2.2.1; omega)⟩⟩⟩
  have cr : ∀ k : Nat, 0 ≤ ct_c y k ∧ ct_c y k < 256 := fun k => ⟨Int.emod_nonneg _ (by decide), Int.emod_lt_of_pos _ (by decide)⟩
  -- the second loop
  have two : ct_ok y n (z W 1) → ∀ x4 : Int, x4 = n - 1 → wp_c10_append_69 L K z r A W y x4 Q := by
    intro hok x4 e4 P hP
    have key : ∀ (k : Nat) (z1 A1 : Nat → Nat → Int) (x : Int), x = (k : Int) - 1 → (k : Int) ≤ n → (∀ a, a ≠ W → z1 a = z a) → (∀ a, a ≠ r W 0 → A1 a = A a) → (∀ i, 0 ≤ A1 (r W 0) i ∧ A1 (r W 0) i < 65536) → z1 W 1 = z W 1 + (n - (k : Int)) → z1 W 4 = z W 4 → ((∀ i : Nat, (i : Int) < z W 1 → A1 (r W 0) i = A (r W 0) i) ∧ ∀ q : Nat, k ≤ q → (q : Int) < n → A1 (r W 0) (z W 1 + n - 1 - (q : Int)).toNat = ct_c y q) → P z1 A1 x := by
      intro k
      induction k with
      | zero =>
        intro z1 A1 x ex kn o oA hr a1 a4 hx9
        refine hP z1 A1 x ⟨by omega, fun _ => ?_, fun c => by omega⟩
        exact hQ1 hok z1 A1 o oA ⟨t1, t2, t3, by omega, by rw [a4]; exact t5, hr⟩ (by omega) ⟨hx9.1, fun q hq => hx9.2 q (Nat.zero_le q) hq⟩
      | succ k ih =>
        intro z1 A1 x ex kn o oA hr a1 a4 hx9
        have exk : x = (k : Int) := by omega
        subst exk
        refine hP z1 A1 k ⟨by omega, fun c => by omega, fun _ => ⟨t1, wq_c10_typedCharacter (by omega) (fun x9 e9 => ⟨t2, by omega, ?_, fun A2 e2 z2 ez x5 e5 => ?_⟩)⟩⟩
        · have := cr k; omega
        · have ck := cr k
          refine ih z2 A2 x5 (by omega) (by omega) (fun a ha => by rw [ez, cw_s_a ha]; exact o a ha) (fun a ha => by rw [e2, hz_s_a ha]; exact oA a ha) (fun i => ?_) (by rw [ez, cw_s_same]; omega) (by rw [ez, cw_s_k (by decide)]; exact a4) ⟨fun i hi => ?_, fun q q1 q2 => ?_⟩
          · rw [e2]
            by_cases hi : i = (z1 W 1).toNat
            · rw [hi, hz_s_same]; omega
            · rw [hz_s_i hi]; exact hr i
          · rw [e2, hz_s_i (by omega)]
            exact hx9.1 i hi
          · by_cases eq : q = k
            · rw [eq, e2, show (z W 1 + n - 1 - (k : Int)).toNat = (z1 W 1).toNat by omega, hz_s_same]
              omega
            · rw [e2, hz_s_i (by omega)]
              exact hx9.2 q (by omega) q2
    exact key n.toNat z A x4 (by omega) (by omega) (fun _ _ => rfl) (fun _ _ => rfl) t6 (by omega) rfl ⟨fun _ _ => rfl, fun q q1 q2 => by omega⟩
  intro P hP
  have key : ∀ (k j : Nat) (x : Int), j + (k : Int) = n → x = (j : Int) → (∀ i : Nat, i < j → 32 ≤ ct_c y i ∧ ct_c y i ≤ 126) → P x := by
    intro k
    induction k with
    | zero =>
      intro j x hk ex hc
      refine hP x ⟨by omega, hn, fun _ => ?_, fun c => by omega⟩
      exact two ⟨by omega, by omega, by omega, fun i hi => hc i (by omega)⟩
    | succ k ih =>
      intro j x hk ex hc
      subst ex
      have cj := cr j
      have bad : (ct_c y j < 32 ∨ 126 < ct_c y j) → wp_c10_append_56 L K z r A Q := fun h => hQ0 (fun hok => by have := hok.2.2.2 j (by omega); omega)
      refine hP j ⟨by omega, hn, fun c => by omega, fun _ => wq_c10_typedCharacter (by omega) ⟨by omega, fun c => bad (by omega), fun c => ⟨by omega, fun c2 x1 e1 => ?_, fun c2 => bad (by omega)⟩⟩⟩
      refine ih (j + 1) x1 (by omega) (by omega) (fun i hi => ?_)
      by_cases hij : i = j
      · rw [hij]; omega
      · exact hc i (by omega)
  exact key n.toNat 0 0 (by omega) rfl (fun i hi => by omega)
end CW
/-- neither the text nor a game is changed; of the HiddenMoves itself only what was printed -/
noncomputable def ci_D (ρ : Nat → Nat) (h : Nat) (z A z' A' : Nat → Nat → Int) : Prop := cF ρ (fun q => q = 0 ∨ (2 ≤ q ∧ q ≤ 16)) z A z' A' ∧ ∀ y, y ≠ 2 → z' h y = z h y
theorem ci_D_refl (ρ : Nat → Nat) (h : Nat) (z A : Nat → Nat → Int) : ci_D ρ h z A z A := ⟨cF_refl _ _ _ _, fun _ _ => rfl⟩
theorem ci_D_trans {ρ : Nat → Nat} {h : Nat} {z A z1 A1 z2 A2 : Nat → Nat → Int} (h1 : ci_D ρ h z A z1 A1) (h2 : ci_D ρ h z1 A1 z2 A2) : ci_D ρ h z A z2 A2 := ⟨cF_trans h1.1 h2.1, fun y hy => (h2.2 y hy).trans (h1.2 y hy)⟩
/-- game g is σ -/
noncomputable def sg_R (K : Nat → cw_K) (r : Nat → Nat → Nat) (g : Nat) (σ z A : Nat → Nat → Int) : Prop :=
  ((∀ i, i < 4 → A (r g 0) i = σ 0 i) ∧ sh_R K r g σ z A ∧ sv_R σ) ∧ (∀ t, t < 2 → z (cw_g K (r g 1) t) 0 = σ 1 t ∧ ∀ i : Nat, (i : Int) < σ 1 t → A (r (cw_g K (r g 1) t) 1) i = σ (10 + t) i ∧ A (r (cw_g K (r g 1) t) 2) i = σ (12 + t) i ∧ A (r (cw_g K (r g 1) t) 3) i = σ (14 + t) i ∧ A (r (cw_g K (r g 1) t) 4) i = σ (16 + t) i)
section CI
variable {L : List Nat} {K : Nat → cw_K} {r r' : Nat → Nat → Nat} {z A : Nat → Nat → Int} {w : Nat → Nat × Nat} {ρ : Nat → Nat} {S : Nat → Prop} {h g R : Nat} {σ : Nat → Nat → Int}
theorem sg_of (h : sc_R K r R σ z A ∧ sh_R K r (r R 3) σ z A ∧ sv_R σ) : sg_R K r (r R 3) σ z A := ⟨⟨h.1.1, h.2⟩, h.1.2.1⟩
theorem sh_keepF {z' A' : Nat → Nat → Int} (h2 : cg_2 L K r w ρ) (h7 : cg_7 L K r w ρ) (hg : cw_O L K 2 g) (hF : cF ρ S z A z' A') (hS : ¬ S (ρ g)) (hs : sh_R K r g σ z A) : sh_R K r g σ z' A' := by
  obtain ⟨a, b⟩ := hs
  obtain ⟨-, ⟨g2, g3, g4⟩, ⟨w1, w2, w3⟩⟩ := h2 g hg
  refine ⟨fun t ht => ?_, fun i j hi hj => ?_⟩
  · obtain ⟨s1, s2, s3⟩ := g4 t ht
    obtain ⟨-, -, -, -, e6, e7⟩ := h7 _ s1
    rw [(hF _ (by rw [s3]; exact hS)).1, (hF _ (by rw [e6.2.2.2, s3]; exact hS)).2, (hF _ (by rw [e7.2.2.2, s3]; exact hS)).2]
    exact a t ht
  · rw [(hF _ (by rw [(w3 i hi).2.2.2]; exact hS)).2]
    exact b i j hi hj
theorem sh_r (hc : ∀ t a, cw_O L K t a → ¬ t = 5 → ¬ t = 11 → r' a = r a) (h2 : cg_2 L K r w ρ) (hg : cw_O L K 2 g) (hs : sh_R K r g σ z A) : sh_R K r' g σ z A := by
  obtain ⟨a, b⟩ := hs
  obtain ⟨-, ⟨g2, g3, g4⟩, -⟩ := h2 g hg
  have eg := hc 2 g hg (by decide) (by decide)
  refine ⟨fun t ht => ?_, by rw [eg]; exact b⟩
  rw [eg, hc 7 _ (g4 t ht).1 (by decide) (by decide)]
  exact a t ht
theorem sg_keepF {z' A' : Nat → Nat → Int} (h2 : cg_2 L K r w ρ) (h7 : cg_7 L K r w ρ) (hg : cw_O L K 2 g) (hF : cF ρ S z A z' A') (hS : ¬ S (ρ g)) (hs : sg_R K r g σ z A) : sg_R K r g σ z' A' := by
  obtain ⟨⟨a, sh, sv⟩, b⟩ := hs
  obtain ⟨g1, ⟨g2, g3, g4⟩, -⟩ := h2 g hg
  refine ⟨⟨fun i hi => by rw [(hF _ (by rw [g1.2.2.2]; exact hS)).2]; exact a i hi, sh_keepF h2 h7 hg hF hS sh, sv⟩, fun t ht => ?_⟩
  obtain ⟨s1, s2, s3⟩ := g4 t ht
  obtain ⟨e1, e2, e3, e4, -, -⟩ := h7 _ s1
  rw [(hF _ (by rw [s3]; exact hS)).1, (hF _ (by rw [e1.2.2.2, s3]; exact hS)).2, (hF _ (by rw [e2.2.2.2, s3]; exact hS)).2, (hF _ (by rw [e3.2.2.2, s3]; exact hS)).2, (hF _ (by rw [e4.2.2.2, s3]; exact hS)).2]
  exact b t ht
theorem sg_r (hc : ∀ t a, cw_O L K t a → ¬ t = 5 → ¬ t = 11 → r' a = r a) (h2 : cg_2 L K r w ρ) (hg : cw_O L K 2 g) (hs : sg_R K r g σ z A) : sg_R K r' g σ z A := by
  obtain ⟨⟨a, sh, sv⟩, b⟩ := hs
  obtain ⟨-, ⟨g2, g3, g4⟩, -⟩ := h2 g hg
  have eg := hc 2 g hg (by decide) (by decide)
  refine ⟨⟨by rw [eg]; exact a, sh_r hc h2 hg sh, sv⟩, fun t ht => ?_⟩
  rw [eg, hc 7 _ (g4 t ht).1 (by decide) (by decide)]
  exact b t ht
theorem wv_c11_type {y n : Int} (I : ci_I L K r w ρ z A h) (hn : hz_rI n) {Q : Int → (Nat → Nat → Int) → (Nat → Nat → Int) → Prop} (hQ1 : ct_ok y n (z (r (r h 0) 2) 1) → ∀ z' A' : Nat → Nat → Int, ci_I L K r w ρ z' A' h → z' (r (r h 0) 2) 1 = z (r (r h 0) 2) 1 + n → tx_R (A (r (r (r h 0) 2) 0)) (A' (r (r (r h 0) 2) 0)) (z (r (r h 0) 2) 1) n y → cF ρ (fun q => q = 1) z A z' A' → Q (z (r (r h 0) 2) 1 + n) z' A') (hQ0 : ¬ ct_ok y n (z (r (r h 0) 2) 1) → Q (-1) z A) : wp_c11_type L K z r A h y n Q := by
  have T := I.2.2.2.1
  obtain ⟨⟨a1, a2⟩, ⟨b1, b2⟩, ⟨c1, c2, c3⟩, -⟩ := id I.2.1
  have pg := I.2.1.2.2.2.2.2.2.2.2.2.2.2.2.2.2.1
  refine ⟨a1, b1, c1, wv_c10_append T hn (fun ok z1 A1 o1 a1' T1 l1 tx => ⟨by decide, fun c => absurd c (by decide), fun _ => ?_⟩) (fun no => ⟨by decide, fun _ => hQ0 no, fun c => absurd rfl c⟩)⟩
  show Q (z1 (r (r h 0) 2) 1) z1 A1
  rw [l1]
  have t2 := T.2.1
  refine hQ1 ok z1 A1 (ci_keep (S := fun q => q = 1) I (fun x hx => ⟨o1 x (fun e => hx (by rw [e]; exact c2)), a1' x (fun e => hx (by rw [e]; exact c3))⟩) ?_ (by have := pg.2; show ¬ ρ (r h 13) = 1; omega) (fun e => absurd e (by decide)) (fun _ => T1) (fun i hi e => by omega) (fun i hi e => by omega) (fun i hi e => by omega) (fun i hi e => by omega)) l1 tx (fun x hx => ⟨o1 x (fun e => hx (by rw [e]; exact c2)), a1' x (fun e => hx (by rw [e]; exact c3))⟩)
  have J := I.2.2.1
  have nd := cd_dig J.1 t2 (by decide)
  refine ⟨⟨⟨fun b hb => ⟨(J.1.1.1 b hb).1, (J.1.1.1 b hb).2.1, by rw [a1' _ (nd b hb)]; exact (J.1.1.1 b hb).2.2⟩, J.1.1.2⟩, fun b hb => ?_⟩, fun x => ?_⟩
  · have := J.1.2 b hb
    unfold cb_k at this ⊢
    rw [o1 b (cw_O_ne hb c1 (by decide)), a1' _ (nd b hb)]
    exact this
  · by_cases hx : x = r (r (r h 0) 2) 0
    · subst hx
      refine ⟨fun q => ?_, fun q => ?_, fun _ => T1.2.2.2.2.2, fun q => ?_⟩
      · have := cw_A_ne q t2; omega
      · have := cw_A_ne q t2; omega
      · have := cw_A_ne q t2; omega
    · rw [a1' x hx]; exact J.2 x
end CI
