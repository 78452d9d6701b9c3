-- 18.b24
section CZ
variable {L : List Nat} {K : Nat → cw_K} {r : Nat → Nat → Nat} {z A : Nat → Nat → Int} {w : Nat → Nat × Nat} {ρ : Nat → Nat} {S : Nat → Prop} {V g : Nat}
theorem wq_c7_countChildren {s : Nat} {l : Int} (h7 : cg_7 L K r w ρ) (hF : cs_F L K r z A s) (hl : hz_rI l) (hA : cr_A L K A) {Q : Int → Prop} (hQ : ∀ x : Int, 0 ≤ x → x ≤ 10 → Q x) : wp_c7_countChildren L K z r A s l Q := by
  obtain ⟨hs, f2, f3, f4⟩ := hF
  obtain ⟨-, -, -, -, -, ⟨q1, q2, q3, q4⟩⟩ := h7 s hs
  intro PP hPP
  have key : ∀ (k n : Nat) (v x : Int), n + (k : Int) = z s 0 → x = (n : Int) → 0 ≤ v → v ≤ (n : Int) → PP v x := by
    intro k
    induction k with
    | zero =>
      intro n v x hk ex v0 v1
      exact hPP v x ⟨hs, by omega, by omega, fun _ => hQ v v0 (by omega), fun c => by omega⟩
    | succ k ih =>
      intro n v x hk ex v0 v1
      exact hPP v x ⟨hs, by omega, by omega, fun c => by omega, fun _ => ⟨q1, by omega, (hA _).1 q1 _, hl, fun _ x1 e1 => ih (n + 1) v x1 (by omega) (by omega) v0 (by omega), fun _ v2 e2 x1 e1 => ih (n + 1) v2 x1 (by omega) (by omega) (by omega) (by omega)⟩⟩
  exact key (z s 0).toNat 0 0 0 (by omega) rfl (by omega) (by omega)
theorem cS_succ (f : Nat → Int) (n : Nat) : cS f (n + 1) = cS f n + f n := rfl
theorem cS_mono {f : Nat → Int} {m n : Nat} (h : ∀ i, i < n → 0 ≤ f i) (hmn : m ≤ n) : cS f m ≤ cS f n := by
  induction n with
  | zero => rw [show m = 0 by omega]; exact Int.le_refl _
  | succ n ih =>
    by_cases e : m = n + 1
    · rw [e]; exact Int.le_refl _
    · have := ih (fun i hi => h i (by omega)) (by omega)
      have := h n (by omega)
      simp only [cS]
      omega
theorem wq_c2_sumOfSizes (h2 : cg_2 L K r w ρ) (hF : cg_F L K r z A g) (hA : cr_A L K A) {Q : Int → Prop} (hQ : ∀ x : Int, 0 ≤ x → x ≤ 400000000000 → Q x) : wp_c2_sumOfSizes L K z r A g Q := by
  have hg0 := hF.1
  obtain ⟨-, ⟨s1, s2, s3⟩, ⟨w1, w2, w3⟩⟩ := h2 g hg0
  have f0 := hF.2.1.2.2.1
  have f1 := hF.2.2.1.2.2.1
  have hW := hF.2.2.2.1
  obtain ⟨row, hrow⟩ : ∃ row : Nat → Nat → Int, row = fun i j => ((A (cw_g K (r g 3) i) j).natAbs : Int) := ⟨_, rfl⟩
  have rn : ∀ i j, 0 ≤ row i j := fun i j => by rw [hrow]; show (0 : Int) ≤ ((A (cw_g K (r g 3) i) j).natAbs : Int); omega
  have eW : cg_W K r A g = cS (fun i => cS (row i) 20) 20 := by rw [hrow]; rfl
  have rown : ∀ i, 0 ≤ cS (row i) 20 := fun i => cS_nn (fun j _ => rn i j)
  intro PP hPP
  have key : ∀ (k n : Nat) (v x : Int), n + (k : Int) = z (cw_g K (r g 1) 0) 5 → x = (n : Int) → 0 ≤ v → v ≤ cS (fun i => cS (row i) 20) n → PP v x := by
    intro k
    induction k with
    | zero =>
      intro n v x hk ex v0 v1
      have := cS_mono (f := fun i => cS (row i) 20) (m := n) (n := 20) (fun i _ => rown i) (by omega)
      exact hPP v x ⟨hg0, s1, by omega, (s3 0 (by omega)).1, by omega, by show hz_rI (z (cw_g K (r g 1) 0) 5); omega, fun _ => hQ v v0 (by omega), fun c => absurd (show z (cw_g K (r g 1) 0) 5 ≤ x by omega) c⟩
    | succ k ih =>
      intro n v x hk ex v0 v1
      subst ex
      refine hPP v n ⟨hg0, s1, by omega, (s3 0 (by omega)).1, by omega, by show hz_rI (z (cw_g K (r g 1) 0) 5); omega, fun c => absurd (show z (cw_g K (r g 1) 0) 5 ≤ (n : Int) from c) (by omega), fun _ => ?_⟩
      intro P2 hP2
      have inner : ∀ (k2 j : Nat) (u y : Int), j + (k2 : Int) = z (cw_g K (r g 1) 1) 5 → y = (j : Int) → 0 ≤ u → u ≤ cS (fun i => cS (row i) 20) n + cS (row n) j → P2 u y := by
        intro k2
        induction k2 with
        | zero =>
          intro j u y hj ey u0 u1
          have := cS_mono (f := row n) (m := j) (n := 20) (fun i _ => rn n i) (by omega)
          refine hP2 u y ⟨hg0, s1, by omega, (s3 1 (by omega)).1, by omega, by show hz_rI (z (cw_g K (r g 1) 1) 5); omega, fun _ x1 e1 => ih (n + 1) u x1 (by omega) (by omega) u0 (by rw [cS_succ]; show u ≤ cS (fun i => cS (row i) 20) n + cS (row n) 20; omega), fun c => absurd (show z (cw_g K (r g 1) 1) 5 ≤ y by omega) c⟩
        | succ k2 ih2 =>
          intro j u y hj ey u0 u1
          subst ey
          have hw := cg_W_le (K := K) (r := r) (A := A) (g := g) (i := n) (j := j) (by omega) (by omega)
          have er : row n j = ((A (cw_g K (r g 3) n) j).natAbs : Int) := by rw [hrow]
          have en : ((n : Int)).toNat = n := by omega
          have ej : ((j : Int)).toNat = j := by omega
          refine hP2 u j ⟨hg0, s1, by omega, (s3 1 (by omega)).1, by omega, by show hz_rI (z (cw_g K (r g 1) 1) 5); omega, fun c => absurd (show z (cw_g K (r g 1) 1) 5 ≤ (j : Int) from c) (by omega), fun _ => ⟨w1, by omega, (w3 n (by omega)).1, by rw [en, (w3 n (by omega)).2.1]; omega, by rw [en, ej]; omega, by rw [en, ej]; omega, fun t et u2 eu y2 ey2 => ?_⟩⟩
          rw [en, ej] at et
          exact ih2 (j + 1) u2 y2 (by omega) (by omega) (by omega) (by rw [cS_succ]; omega)
      exact inner (z (cw_g K (r g 1) 1) 5).toNat 0 v 0 (by omega) rfl v0 (by show v ≤ cS (fun i => cS (row i) 20) n + 0; omega)
  exact key (z (cw_g K (r g 1) 0) 5).toNat 0 0 0 (by omega) rfl (by omega) (by simp [cS])
/-- the floors are at most so large -/
noncomputable def cz_f (r : Nat → Nat → Nat) (A : Nat → Nat → Int) (V : Nat) : Prop := ∀ i : Nat, i < 10 → 0 ≤ A (r V 3) i ∧ A (r V 3) i ≤ 400000000001 * 512
theorem wq_c8_setFloors {s : Nat} {u : Int} (h : cJ L K r z A) (h7 : cg_7 L K r w ρ) (h8 : cg_8 L K r w ρ) (hV : cw_O L K 8 V) (hVS : S (ρ V)) (hF : cs_F L K r z A s) (hs' : ¬ S (ρ s)) (hu : 0 ≤ u ∧ u ≤ 400000000001) {Q : (Nat → Nat → Int) → Prop} (hQ : ∀ A' : Nat → Nat → Int, cJ L K r z A' → cF ρ S z A z A' → (∀ a, a ≠ r V 3 → A' a = A a) → (∀ i : Nat, (i : Int) < z s 0 → 0 ≤ A' (r V 3) i ∧ A' (r V 3) i ≤ 400000000001 * 512) → Q A') : wp_c8_setFloors L K z r A V s u Q := by
  obtain ⟨-, -, -, ⟨f1, f2, f3, f4⟩, -, -, -, -⟩ := h8 V hV
  have hs := hF.1
  have g2 := hF.2.1
  obtain ⟨-, -, -, ⟨d1, d2, d3, d4⟩, -, -⟩ := h7 s hs
  have nb : ∀ A', cJ L K r z A' → ∀ b, cw_O L K 0 b → r b 0 ≠ r V 3 := fun A' j => cd_dig j.1 f1 (by decide)
  have ne : r s 4 ≠ r V 3 := cg_ne d3 f3 (by simp)
  have p2 : ∀ n : Nat, n ≤ 9 → (1 : Int) ≤ 2 ^ n ∧ (2 : Int) ^ n ≤ 512 := by
    intro n hn
    have h1 : (2 : Int) ^ 0 ≤ 2 ^ n := cn_pow (by omega)
    have h2 : (2 : Int) ^ n ≤ 2 ^ 9 := cn_pow hn
    omega
  refine ⟨hs, fun x4 e4 => ?_⟩
  intro PP hPP
  -- k sets are still to be done; those behind have floors of at most u * 2^(how many are behind)
  have key : ∀ (k : Nat) (A1 : Nat → Nat → Int) (x : Int), (k : Int) ≤ z s 0 → x = (k : Int) - 1 → cJ L K r z A1 → cF ρ S z A z A1 → (∀ a, a ≠ r V 3 → A1 a = A a) → (∀ i : Nat, k ≤ i → (i : Int) < z s 0 → 0 ≤ A1 (r V 3) i ∧ A1 (r V 3) i ≤ u * 2 ^ ((z s 0).toNat - 1 - i)) → PP A1 x := by
    intro k
    induction k with
    | zero =>
      intro A1 x hk ex j1 F1 o1 b1
      refine hPP A1 x ⟨by omega, fun _ => hQ A1 j1 F1 o1 (fun i hi => ?_), fun c => by omega⟩
      have := b1 i (by omega) hi
      have hp := p2 ((z s 0).toNat - 1 - i) (by omega)
      have : u * 2 ^ ((z s 0).toNat - 1 - i) ≤ 400000000001 * 512 := Int.mul_le_mul hu.2 hp.2 (by omega) (by omega)
      omega
    | succ k ih =>
      intro A1 x hk ex j1 F1 o1 b1
      have exk : x = (k : Int) := by omega
      subst exk
      refine hPP A1 k ⟨by omega, fun c => by omega, fun _ => ⟨hV, f1, by omega, fun A2 e2 x5 e5 => ?_⟩⟩
      have j2 : cJ L K r z A2 := by rw [e2]; exact cJ_st j1 f1 (nb A1 j1) ⟨by omega, fun _ => by omega, by omega, by omega⟩
      have F2 : cF ρ S z A z A2 := cF_trans F1 (by rw [e2]; exact cF_st (by rw [f4]; exact hVS))
      have o2 : ∀ a, a ≠ r V 3 → A2 a = A a := fun a ha => by rw [e2, hz_s_a ha]; exact o1 a ha
      have ek : ((k : Int)).toNat = k := by omega
      have s2 : A2 (r V 3) k = u := by rw [e2]; have := hz_s_same (A := A1) (r V 3) (k : Int) u; rwa [ek] at this
      have t2 : ∀ i : Nat, i ≠ k → A2 (r V 3) i = A1 (r V 3) i := fun i hi => by rw [e2, hz_s_i (by omega)]
      obtain ⟨N, hN⟩ : ∃ N : Nat, (N : Int) = z s 0 := ⟨(z s 0).toNat, by omega⟩
      rw [show (z s 0).toNat = N by omega] at b1 ih
      intro P2 hP2
      have inner : ∀ (k2 j : Nat) (A3 : Nat → Nat → Int) (y : Int), j + k2 = N → k + 1 ≤ j → y = (j : Int) → cJ L K r z A3 → cF ρ S z A z A3 → (∀ a, a ≠ r V 3 → A3 a = A a) → (∀ i : Nat, i ≠ k → A3 (r V 3) i = A1 (r V 3) i) → 0 ≤ A3 (r V 3) k → A3 (r V 3) k ≤ u * 2 ^ (N - 1 - k) - u * 2 ^ (N - j) + u → P2 A3 y := by
        intro k2
        induction k2 with
        | zero =>
          intro j A3 y hj hkj ey j3 F3 o3 t3 a0 a1
          refine hP2 A3 y ⟨hs, by omega, by omega, fun _ x1 e1 => ih A3 x1 (by omega) (by omega) j3 F3 o3 (fun i hi hi2 => ?_), fun c => by omega⟩
          by_cases hik : i = k
          · rw [hik]
            rw [show N - j = 0 by omega] at a1
            simp at a1
            omega
          · rw [t3 i hik]; exact b1 i (by omega) hi2
        | succ k2 ih2 =>
          intro j A3 y hj hkj ey j3 F3 o3 t3 a0 a1
          subst ey
          have ej : ((j : Int)).toNat = j := by omega
          have fj := (hF.2.2.2 j (by omega)).2.2.2
          have ed : A3 (r s 4) = A (r s 4) := o3 _ ne
          have bj := b1 j (by omega) (by omega)
          have pj : (2 : Int) ^ (N - j) = 2 * 2 ^ (N - 1 - j) := by rw [show N - j = (N - 1 - j) + 1 by omega, Int.pow_succ, Int.mul_comm]
          have up : u * 2 ^ (N - j) = 2 * (u * 2 ^ (N - 1 - j)) := by rw [pj, Int.mul_left_comm]
          have upn : 0 ≤ u * 2 ^ (N - 1 - j) := Int.mul_nonneg hu.1 (by have := p2 (N - 1 - j) (by omega); omega)
          have ej1 : N - (j + 1) = N - 1 - j := by omega
          have skip : ∀ A4 : Nat → Nat → Int, A4 = A3 → ∀ x1 : Int, x1 = (j : Int) + 1 → P2 A4 x1 := by
            intro A4 e4 x1 e1
            subst e4
            exact ih2 (j + 1) A4 x1 (by omega) (by omega) (by omega) j3 F3 o3 t3 a0 (by rw [ej1]; omega)
          refine hP2 A3 j ⟨hs, by omega, by omega, fun c => by omega, fun _ => ⟨d1, by omega, fun d hd => ?_⟩⟩
          rw [ed, ej] at hd
          rw [← hd] at fj
          have dr : hz_rI d := by omega
          refine ⟨dr, fun _ => skip A3 rfl, fun c => wq_c7_setOf dr (fun d0 => ⟨by omega, by omega, fun _ => skip A3 rfl, fun c2 => ⟨hV, f1, by omega, by omega, by omega, fun A4 e4 => ?_⟩⟩) (by omega)⟩
          rw [ek, ej, t3 j (by omega)] at e4
          have pk : u * 2 ^ (N - 1 - k) ≤ 400000000001 * 512 := Int.mul_le_mul hu.2 (p2 (N - 1 - k) (by omega)).2 (by have := p2 (N - 1 - k) (by omega); omega) (by omega)
          have j4 : cJ L K r z A4 := by rw [e4]; exact cJ_st j3 f1 (nb A3 j3) ⟨by omega, fun _ => by omega, by omega, by omega⟩
          intro x1 e1
          refine ih2 (j + 1) A4 x1 (by omega) (by omega) (by omega) j4 (cF_trans F3 (by rw [e4]; exact cF_st (by rw [f4]; exact hVS))) (fun a ha => by rw [e4, hz_s_a ha]; exact o3 a ha) (fun i hi => by rw [e4, hz_s_i (by omega)]; exact t3 i hi) ?_ ?_
          · have := hz_s_same (A := A3) (r V 3) (k : Int) (A3 (r V 3) k + A1 (r V 3) j)
            rw [ek] at this
            rw [e4, this]
            omega
          · have := hz_s_same (A := A3) (r V 3) (k : Int) (A3 (r V 3) k + A1 (r V 3) j)
            rw [ek] at this
            rw [e4, this, ej1]
            omega
      refine inner (N - (k + 1)) (k + 1) A2 x5 (by omega) (by omega) (by omega) j2 F2 o2 t2 (by rw [s2]; omega) ?_
      rw [s2, show N - (k + 1) = N - 1 - k by omega]
      omega
  exact key (z s 0).toNat A x4 (by omega) (by omega) h (cF_refl _ _ _ _) (fun _ _ => rfl) (fun i hi hi2 => by omega)
end CZ

-- 18.b25
section CZ
variable {L : List Nat} {K : Nat → cw_K} {r : Nat → Nat → Nat} {z A z1 A1 : Nat → Nat → Int} {w : Nat → Nat × Nat} {ρ : Nat → Nat} {S : Nat → Prop} {V g R a b c : Nat}
/-- while the first table is laid -/
noncomputable def cU (L : List Nat) (K : Nat → cw_K) (r : Nat → Nat → Nat) (ρ : Nat → Nat) (S : Nat → Prop) (V R a c : Nat) (z A z1 A1 : Nat → Nat → Int) : Prop :=
  cJ L K r z1 A1 ∧ cF ρ S z A z1 A1 ∧ (∀ x, (∀ q, cw_O L K 0 q → q ≠ x) → z1 x = z x) ∧ cz_B K r z1 A1 V R a c ∧ cb_v r z1 A1 (r V 9) = 1 ∧ ∀ x, (∀ q, cw_O L K 0 q → r q 0 ≠ x) → A1 x = A x
theorem cU_put {i j v : Int} (h1 : cg_1 L K r w ρ) (h8 : cg_8 L K r w ρ) (hV : cw_O L K 8 V) (hVS : S (ρ V)) (hR : R < 30) (hc : c < 30) (U : cU L K r ρ S V R a c z A z1 A1) (hi : 0 ≤ i ∧ i ≤ (R : Int)) (hj : 0 ≤ j ∧ j ≤ (c : Int)) (hv : (v.natAbs : Int) ≤ cz_b R a c i.toNat j.toNat) {Q : (Nat → Nat → Int) → (Nat → Nat → Int) → Prop} (hQ : ∀ z2 A2 : Nat → Nat → Int, cU L K r ρ S V R a c z A z2 A2 → Q z2 A2) : cw_O L K 0 (cw_g K (r V 0) (i.toNat * 30 + j.toNat)) ∧ wp_c0_put L K z1 r A1 (cw_g K (r V 0) (i.toNat * 30 + j.toNat)) v Q := by
  obtain ⟨j1, F1, o1, B1, s1, t1⟩ := U
  have h8' := h8 V hV
  obtain ⟨⟨c1, c2, c3, c4⟩, -, -, -, ⟨k1, k2, k3, k4⟩, -, -, -⟩ := h8'
  obtain ⟨g1, g2, g3, g4⟩ := c4 (i.toNat * 30 + j.toNat) (by omega)
  have gr : r V 0 ≠ V := Ne.symm (cw_OG_ne hV c1)
  have vb : (v.natAbs : Int) ≤ 5000000000000000 := by
    refine Int.le_trans hv ?_
    unfold cz_b
    split
    · decide
    · split
      · split <;> decide
      · decide
  refine ⟨g1, wq_c0_put j1.1 g1 (by omega) (fun z2 A2 q2 hY2 hv2 _ => hQ z2 A2 ⟨cJ_Y j1 g1 q2 hY2, cF_trans F1 (cF_Y h1 g1 (by rw [g4]; exact hVS) hY2), fun x hx => by rw [hY2.1 x (Ne.symm (hx _ g1))]; exact o1 x hx, cz_B_put j1 h8 hV hR hc B1 (by omega) (by omega) hY2 hv2 hv, ?_, fun x hx => by rw [hY2.2 x (Ne.symm (hx _ g1))]; exact t1 x hx⟩)⟩
  rw [(cb_k_other j1.1.1 g1 k1 (cg_ne k3 g3 (by simp; intro e; exact absurd e.symm gr)) hY2).2.2]
  exact s1
theorem cz_b_in {i j : Nat} (hi : i < R) (hj : j < a) (hac : a ≤ c) : cz_b R a c i j = 400000000000 := by
  unfold cz_b
  rw [if_neg (by omega), if_pos hj, if_pos hi]
theorem cz_b_goal {j : Nat} (hj : j < a) (hac : a ≤ c) : cz_b R a c R j = 5000000000000 := by
  unfold cz_b
  rw [if_neg (by omega), if_pos hj, if_neg (by omega)]
theorem cz_b_set {i j : Nat} (hj : a ≤ j) (hjc : j < c) : cz_b R a c i j = 1 := by
  unfold cz_b
  rw [if_neg (by omega), if_neg (by omega)]
theorem cz_b_bound {i : Nat} : cz_b R a c i c = 4503599627370496 := by
  unfold cz_b
  rw [if_pos rfl]
theorem wq_c8_setUpLineOfB {t l : Int} (h1 : cg_1 L K r w ρ) (h2 : cg_2 L K r w ρ) (h7 : cg_7 L K r w ρ) (h8 : cg_8 L K r w ρ) (hV : cw_O L K 8 V) (hVS : S (ρ V)) (hF : cg_F L K r z A g) (hg : ¬ S (ρ g)) (hR : R < 30) (hc : c < 30) (e5 : z V 5 = (c : Int)) (e6 : z V 6 = (a : Int) + 1) (ea : z (cw_g K (r g 1) 0) 5 = (a : Int) + 1) (eb : z (cw_g K (r g 1) 1) 5 = (b : Int) + 1) (ec : (c : Int) = (a : Int) + z (cw_g K (r g 1) 1) 0) (hbR : b ≤ R) (hf : ∀ i : Nat, (i : Int) < z (cw_g K (r g 1) 1) 0 → 0 ≤ A (r V 3) i ∧ A (r V 3) i ≤ 400000000001 * 512) (U : cU L K r ρ S V R a c z A z1 A1) (ht : 0 ≤ t ∧ t < z (cw_g K (r g 1) 1) 0) (hl : 1 ≤ l ∧ l ≤ (b : Int)) {Q : (Nat → Nat → Int) → (Nat → Nat → Int) → Prop} (hQ : ∀ z2 A2 : Nat → Nat → Int, cU L K r ρ S V R a c z A z2 A2 → Q z2 A2) : wp_c8_setUpLineOfB L K z1 r A1 V g t l Q := by
  have hg0 := hF.1
  obtain ⟨-, ⟨s1, s2, s3⟩, ⟨w1, w2, w3⟩⟩ := h2 g hg0
  have S1 := hF.2.2.1
  obtain ⟨q1, q2, q3⟩ := s3 1 (by omega)
  have f0 := hF.2.1.2.2.1
  have f1 := S1.2.1
  have f1' := S1.2.2.1
  obtain ⟨-, -, -, ⟨p1, p2, p3, p4⟩, -, -, -, -⟩ := h8 V hV
  obtain ⟨-, -, -, -, -, ⟨n1, n2, n3, n4⟩⟩ := h7 _ q1
  have nz : ∀ x ci, cw_O L K ci x → ¬ ci = 0 → ∀ q, cw_O L K 0 q → q ≠ x := fun x ci hx hci q hq => cw_O_ne hq hx (fun e => hci e.symm)
  have nf : ∀ q, cw_O L K 0 q → r q 0 ≠ r V 3 := by
    obtain ⟨j1, -⟩ := U
    exact cd_dig j1.1 p1 (by decide)
  have nw : ∀ i, i < 20 → ∀ q, cw_O L K 0 q → r q 0 ≠ cw_g K (r g 3) i := by
    obtain ⟨j1, -⟩ := U
    exact fun i hi => cd_dig j1.1 (w3 i hi).1 (by decide)
  have wl : ∀ i : Nat, i < 20 → ((A (cw_g K (r g 3) i) l.toNat).natAbs : Int) ≤ 400000000000 := by
    intro i hi
    have := cg_W_le (K := K) (r := r) (A := A) (g := g) (i := i) (j := l.toNat) hi (by omega)
    have := hF.2.2.2.1
    omega
  have ft := hf t.toNat (by omega)
  have w0 := wl 0 (by omega)
  -- what holds in every such state
  have zV : ∀ z2 A2, cU L K r ρ S V R a c z A z2 A2 → z2 V = z V := fun z2 A2 U2 => U2.2.2.1 V (nz V 8 hV (by decide))
  have zs : ∀ z2 A2, cU L K r ρ S V R a c z A z2 A2 → z2 (cw_g K (r g 1) 1) = z (cw_g K (r g 1) 1) := fun z2 A2 U2 => U2.2.2.1 _ (nz _ 7 q1 (by decide))
  have Af : ∀ z2 A2, cU L K r ρ S V R a c z A z2 A2 → A2 (r V 3) = A (r V 3) := fun z2 A2 U2 => U2.2.2.2.2.2 _ nf
  have Aw : ∀ z2 A2, cU L K r ρ S V R a c z A z2 A2 → ∀ i, i < 20 → A2 (cw_g K (r g 3) i) = A (cw_g K (r g 3) i) := fun z2 A2 U2 i hi => U2.2.2.2.2.2 _ (nw i hi)
  refine ⟨hg0, s1, by omega, fun x5 e5' => ⟨w1, by omega, (w3 0 (by omega)).1, ?_, hV, p1, by omega, fun x6 ex6 => ?_⟩⟩
  · show (0 : Int) ≤ l ∧ l < (cw_n K (cw_g K (r g 3) 0) : Int)
    rw [(w3 0 (by omega)).2.1]; omega
  have e06 : x6 = A (cw_g K (r g 3) 0) l.toNat + A (r V 3) t.toNat := by
    have := Aw z1 A1 U 0 (by omega)
    have h9 := Af z1 A1 U
    rw [ex6]
    show A1 (cw_g K (r g 3) 0) l.toNat + A1 (r V 3) t.toNat = _
    rw [this, h9]
  -- the children
  have two : ∀ z2 A2 : Nat → Nat → Int, cU L K r ρ S V R a c z A z2 A2 → wp_c8_setUpLineOfB_92 L K z2 r A2 V l (cw_g K (r g 1) 1) x5 x6 0 Q := by
    intro z2 A2 U2 PP hPP
    have key : ∀ (k n : Nat) (z3 A3 : Nat → Nat → Int) (y x : Int), n + (k : Int) = z (cw_g K (r g 1) 1) 0 → x = (n : Int) → cU L K r ρ S V R a c z A z3 A3 → y ≤ x6 → x6 - (n : Int) * 204800000000512 ≤ y → PP z3 A3 y x := by
      intro k
      induction k with
      | zero =>
        intro n z3 A3 y x hk ex U3 y0 y1
        have ev := zV z3 A3 U3
        have es := zs z3 A3 U3
        refine hPP z3 A3 y x ⟨q1, by omega, by rw [es]; omega, fun _ => ⟨hV, wq_c8_cell h8 hV (by omega) (by rw [ev, e5]; omega) (cU_put h1 h8 hV hVS hR hc U3 (by omega) (by rw [ev, e5]; omega) ?_ hQ)⟩, fun c9 => by rw [es] at c9; omega⟩
        rw [ev, e5, show ((c : Int)).toNat = c by omega, cz_b_bound]
        omega
      | succ k ih =>
        intro n z3 A3 y x hk ex U3 y0 y1
        subst ex
        have ev := zV z3 A3 U3
        have es := zs z3 A3 U3
        have rg := (U3.1.2 (r (cw_g K (r g 1) 1) 7)).1 n1 ((n : Int)).toNat
        have fn := hf n (by omega)
        refine hPP z3 A3 y n ⟨q1, by omega, by rw [es]; omega, fun c9 => by rw [es] at c9; omega, fun _ => ⟨n1, by omega, rg, by omega, fun _ x1 e1 => ih (n + 1) z3 A3 y x1 (by omega) (by omega) U3 y0 (by omega), fun _ => ⟨hV, wq_c8_cell h8 hV (by omega) (by rw [ev, e6]; omega) (cU_put h1 h8 hV hVS hR hc U3 (by omega) (by rw [ev, e6]; omega) ?_ (fun z4 A4 U4 => ⟨p1, by omega, fun y1' ey1 x1 e1 => ?_⟩))⟩⟩⟩
        · rw [ev, e6, cz_b_set (by omega) (by omega)]; decide
        · rw [Af z4 A4 U4, show ((n : Int)).toNat = n by omega] at ey1
          exact ih (n + 1) z4 A4 y1' x1 (by omega) (by omega) U4 (by omega) (by omega)
    exact key (z (cw_g K (r g 1) 1) 0).toNat 0 z2 A2 x6 0 (by omega) rfl U2 (by omega) (by omega)
  intro PP hPP
  have key : ∀ (k n : Nat) (z2 A2 : Nat → Nat → Int) (x : Int), n + k = a + 1 → 1 ≤ n → x = (n : Int) → cU L K r ρ S V R a c z A z2 A2 → PP z2 A2 x := by
    intro k
    induction k with
    | zero =>
      intro n z2 A2 x hk hn ex U2
      have ev := zV z2 A2 U2
      refine hPP z2 A2 x ⟨hV, by omega, by rw [ev, e6]; omega, fun _ => wq_c8_cell h8 hV (by omega) (by rw [ev, e6]; omega) (cU_put h1 h8 hV hVS hR hc U2 (by omega) (by rw [ev, e6]; omega) ?_ (fun z3 A3 U3 => two z3 A3 U3)), fun c9 => by rw [ev, e6] at c9; omega⟩
      rw [ev, e6, cz_b_set (by omega) (by omega)]; decide
    | succ k ih =>
      intro n z2 A2 x hk hn ex U2
      subst ex
      have ev := zV z2 A2 U2
      have en : ((n : Int)).toNat = n := by omega
      refine hPP z2 A2 n ⟨hV, by omega, by rw [ev, e6]; omega, fun c9 => by rw [ev, e6] at c9; omega, fun _ => wq_c8_cell h8 hV (by omega) (by omega) ⟨hg0, w1, by omega, by rw [en]; exact (w3 n (by omega)).1, by rw [en, (w3 n (by omega)).2.1]; omega, cU_put h1 h8 hV hVS hR hc U2 (by omega) (by omega) ?_ (fun z3 A3 U3 x1 e1 => ih (n + 1) z3 A3 x1 (by omega) (by omega) (by omega) U3)⟩⟩
      rw [en, Aw z2 A2 U2 n (by omega), cz_b_in (by omega) (by omega) (by omega)]
      have := wl n (by omega)
      omega
  exact key a 1 z1 A1 1 (by omega) (by omega) rfl U
end CZ

-- 18.b26
section CZ
variable {L : List Nat} {K : Nat → cw_K} {r : Nat → Nat → Nat} {z A z1 A1 : Nat → Nat → Int} {w : Nat → Nat × Nat} {ρ : Nat → Nat} {S : Nat → Prop} {V g R a b c : Nat}
theorem cU_z (U : cU L K r ρ S V R a c z A z1 A1) {x ci : Nat} (hx : cw_O L K ci x) (hci : ¬ ci = 0) : z1 x = z x := U.2.2.1 x (fun q hq => cw_O_ne hq hx (fun e => hci e.symm))
theorem cU_A (hdg : ∀ a, cw_O L K 0 a → w (r a 0) = (a, 0)) (U : cU L K r ρ S V R a c z A z1 A1) {x k ci : Nat} (hx : cw_O L K ci x) (hci : ¬ ci = 0) (hw : w (r x k) = (x, k)) : A1 (r x k) = A (r x k) := U.2.2.2.2.2 _ (cg_dig hdg hw hx hci)
theorem wq_c8_setUpLinesOfB (hdg : ∀ a, cw_O L K 0 a → w (r a 0) = (a, 0)) (h1 : cg_1 L K r w ρ) (h2 : cg_2 L K r w ρ) (h7 : cg_7 L K r w ρ) (h8 : cg_8 L K r w ρ) (hV : cw_O L K 8 V) (hVS : S (ρ V)) (hF : cg_F L K r z A g) (hg : ¬ S (ρ g)) (hR : R < 30) (hc : c < 30) (e5 : z V 5 = (c : Int)) (e6 : z V 6 = (a : Int) + 1) (ea : z (cw_g K (r g 1) 0) 5 = (a : Int) + 1) (eb : z (cw_g K (r g 1) 1) 5 = (b : Int) + 1) (ec : (c : Int) = (a : Int) + z (cw_g K (r g 1) 1) 0) (hbR : b ≤ R) (hf : ∀ i : Nat, (i : Int) < z (cw_g K (r g 1) 1) 0 → 0 ≤ A (r V 3) i ∧ A (r V 3) i ≤ 400000000001 * 512) (U : cU L K r ρ S V R a c z A z1 A1) {Q : (Nat → Nat → Int) → (Nat → Nat → Int) → Prop} (hQ : ∀ z2 A2 : Nat → Nat → Int, cU L K r ρ S V R a c z A z2 A2 → Q z2 A2) : wp_c8_setUpLinesOfB L K z1 r A1 V g Q := by
  have hg0 := hF.1
  obtain ⟨-, ⟨s1, s2, s3⟩, -⟩ := h2 g hg0
  have S1 := hF.2.2.1
  obtain ⟨q1, q2, q3⟩ := s3 1 (by omega)
  have f1 := S1.2.1
  obtain ⟨-, ⟨m1, m2, m3, m4⟩, -, -, ⟨l1, l2, l3, l4⟩, -⟩ := h7 _ q1
  refine ⟨hg0, s1, by omega, ?_⟩
  show wp_c8_setUpLinesOfB_9 L K z1 r A1 V g (cw_g K (r g 1) 1) 0 Q
  intro PP hPP
  have key : ∀ (k n : Nat) (z2 A2 : Nat → Nat → Int) (x : Int), n + (k : Int) = z (cw_g K (r g 1) 1) 0 → x = (n : Int) → cU L K r ρ S V R a c z A z2 A2 → PP z2 A2 x := by
    intro k
    induction k with
    | zero =>
      intro n z2 A2 x hk ex U2
      have es := cU_z U2 q1 (by decide)
      exact hPP z2 A2 x ⟨q1, by omega, by rw [es]; omega, fun _ => hQ z2 A2 U2, fun c9 => by rw [es] at c9; omega⟩
    | succ k ih =>
      intro n z2 A2 x hk ex U2
      subst ex
      have es := cU_z U2 q1 (by decide)
      have fn := S1.2.2.2 n (by omega)
      have en : ((n : Int)).toNat = n := by omega
      refine hPP z2 A2 n ⟨q1, by omega, by rw [es]; omega, fun c9 => by rw [es] at c9; omega, fun _ => ?_⟩
      intro P2 hP2
      have inner : ∀ (k2 j : Nat) (z3 A3 : Nat → Nat → Int) (y : Int), j + (k2 : Int) = A (r (cw_g K (r g 1) 1) 2) n → y = (j : Int) → cU L K r ρ S V R a c z A z3 A3 → P2 z3 A3 y := by
        intro k2
        induction k2 with
        | zero =>
          intro j z3 A3 y hj ey U3
          have em := cU_A hdg U3 q1 (by decide) m3
          exact hP2 z3 A3 y ⟨q1, m1, by omega, by omega, by rw [em, en]; omega, fun _ x1 e1 => ih (n + 1) z3 A3 x1 (by omega) (by omega) U3, fun c9 => by rw [em, en] at c9; omega⟩
        | succ k2 ih2 =>
          intro j z3 A3 y hj ey U3
          have em := cU_A hdg U3 q1 (by decide) m3
          have el := cU_A hdg U3 q1 (by decide) l3
          refine hP2 z3 A3 y ⟨q1, m1, by omega, by omega, by rw [em, en]; omega, fun c9 => by rw [em, en] at c9; omega, fun _ => ⟨l1, by omega, hV, ?_⟩⟩
          rw [el, en]
          exact wq_c8_setUpLineOfB h1 h2 h7 h8 hV hVS hF hg hR hc e5 e6 ea eb ec hbR hf U3 (by omega) (by omega) (fun z4 A4 U4 y1 ey1 => ih2 (j + 1) z4 A4 y1 (by omega) (by omega) U4)
      exact inner (A (r (cw_g K (r g 1) 1) 2) n).toNat 0 z2 A2 0 (by omega) rfl U2
  exact key (z (cw_g K (r g 1) 1) 0).toNat 0 z1 A1 0 (by omega) rfl U
theorem wq_c8_setUpSetsOfA {s : Nat} (hdg : ∀ a, cw_O L K 0 a → w (r a 0) = (a, 0)) (h1 : cg_1 L K r w ρ) (h7 : cg_7 L K r w ρ) (h8 : cg_8 L K r w ρ) (hV : cw_O L K 8 V) (hVS : S (ρ V)) (hF : cs_F L K r z A s) (hR : R < 30) (hc : c < 30) (hac : a ≤ c) (e5 : z V 5 = (c : Int)) (e7 : z V 7 = (b : Int) + 1) (ea : z s 5 = (a : Int) + 1) (eR : (R : Int) = (b : Int) + z s 0) (U : cU L K r ρ S V R a c z A z1 A1) {Q : (Nat → Nat → Int) → (Nat → Nat → Int) → Prop} (hQ : ∀ z2 A2 : Nat → Nat → Int, cU L K r ρ S V R a c z A z2 A2 → Q z2 A2) : wp_c8_setUpSetsOfA L K z1 r A1 V s Q := by
  have q1 := hF.1
  have f1 := hF.2.1
  obtain ⟨-, ⟨m1, m2, m3, m4⟩, -, -, ⟨l1, l2, l3, l4⟩, ⟨n1, n2, n3, n4⟩⟩ := h7 _ q1
  intro PP hPP
  have key : ∀ (k n : Nat) (z2 A2 : Nat → Nat → Int) (x : Int), n + (k : Int) = z s 0 → x = (n : Int) → cU L K r ρ S V R a c z A z2 A2 → PP z2 A2 x := by
    intro k
    induction k with
    | zero =>
      intro n z2 A2 x hk ex U2
      have es := cU_z U2 q1 (by decide)
      exact hPP z2 A2 x ⟨q1, by omega, by rw [es]; omega, fun _ => hQ z2 A2 U2, fun c9 => by rw [es] at c9; omega⟩
    | succ k ih =>
      intro n z2 A2 x hk ex U2
      subst ex
      have es := cU_z U2 q1 (by decide)
      have ev2 := cU_z U2 hV (by decide)
      have fn := hF.2.2.2 n (by omega)
      have en : ((n : Int)).toNat = n := by omega
      refine hPP z2 A2 n ⟨q1, by omega, by rw [es]; omega, fun c9 => by rw [es] at c9; omega, fun _ => ⟨hV, fun x3 ex3 => ?_⟩⟩
      rw [ev2, e7] at ex3
      intro P2 hP2
      have inner : ∀ (k2 j : Nat) (z3 A3 : Nat → Nat → Int) (y : Int), j + (k2 : Int) = A (r s 2) n → y = (j : Int) → cU L K r ρ S V R a c z A z3 A3 → P2 z3 A3 y := by
        intro k2
        induction k2 with
        | zero =>
          intro j z3 A3 y hj ey U3
          have em := cU_A hdg U3 q1 (by decide) m3
          have ep := cU_A hdg U3 q1 (by decide) n3
          have ev := cU_z U3 hV (by decide)
          refine hP2 z3 A3 y ⟨q1, m1, by omega, by omega, by rw [em, en]; omega, fun _ => ⟨n1, by omega, by rw [ep, en]; omega, fun c9 => ⟨by omega, hV, ?_⟩, fun c9 => ⟨hV, ?_⟩⟩, fun c9 => by rw [em, en] at c9; omega⟩
          · rw [ep, en] at c9 ⊢
            refine wq_c8_cell h8 hV (by omega) (by omega) (cU_put h1 h8 hV hVS hR hc U3 (by omega) (by omega) ?_ (fun z4 A4 U4 x1 e1 => ih (n + 1) z4 A4 x1 (by omega) (by omega) U4))
            rw [cz_b_in (by omega) (by omega) hac]; decide
          · rw [ev, e5]
            refine wq_c8_cell h8 hV (by omega) (by omega) (cU_put h1 h8 hV hVS hR hc U3 (by omega) (by omega) ?_ (fun z4 A4 U4 x1 e1 => ih (n + 1) z4 A4 x1 (by omega) (by omega) U4))
            rw [show ((c : Int)).toNat = c by omega, cz_b_bound]; decide
        | succ k2 ih2 =>
          intro j z3 A3 y hj ey U3
          have em := cU_A hdg U3 q1 (by decide) m3
          have el := cU_A hdg U3 q1 (by decide) l3
          refine hP2 z3 A3 y ⟨q1, m1, by omega, by omega, by rw [em, en]; omega, fun c9 => by rw [em, en] at c9; omega, fun _ => ⟨l1, by omega, hV, ?_⟩⟩
          rw [el, en]
          refine wq_c8_cell h8 hV (by omega) (by omega) (cU_put h1 h8 hV hVS hR hc U3 (by omega) (by omega) ?_ (fun z4 A4 U4 y1 ey1 => ih2 (j + 1) z4 A4 y1 (by omega) (by omega) U4))
          rw [cz_b_in (by omega) (by omega) hac]; decide
      exact inner (A (r s 2) n).toNat 0 z2 A2 0 (by omega) rfl U2
  exact key (z s 0).toNat 0 z1 A1 0 (by omega) rfl U
/-- the goal's row; what the solver's object holds then beside the shift stays -/
theorem wq_c8_setUpGoal {u : Int} (hdg : ∀ a, cw_O L K 0 a → w (r a 0) = (a, 0)) (h1 : cg_1 L K r w ρ) (h2 : cg_2 L K r w ρ) (h7 : cg_7 L K r w ρ) (h8 : cg_8 L K r w ρ) (hV : cw_O L K 8 V) (hVS : S (ρ V)) (hF : cg_F L K r z A g) (hg : ¬ S (ρ g)) (hR : R < 30) (hc : c < 30) (hu : 0 ≤ u ∧ u ≤ 400000000001) (e4 : z V 4 = (R : Int)) (e6 : z V 6 = (a : Int) + 1) (ea : z (cw_g K (r g 1) 0) 5 = (a : Int) + 1) (ec : (c : Int) = (a : Int) + z (cw_g K (r g 1) 1) 0) (hf : ∀ i : Nat, (i : Int) < z (cw_g K (r g 1) 1) 0 → 0 ≤ A (r V 3) i ∧ A (r V 3) i ≤ 400000000001 * 512) (U : cU L K r ρ S V R a c z A z1 A1) {Q : (Nat → Nat → Int) → (Nat → Nat → Int) → Prop} (hQ : ∀ z2 A2 : Nat → Nat → Int, cJ L K r z2 A2 → cF ρ S z A z2 A2 → (∀ k, k ≠ 8 → z2 V k = z V k) → cz_B K r z2 A2 V R a c → cb_v r z2 A2 (r V 9) = 1 → (z2 V 8).natAbs ≤ 5000000000000000 → (∀ x, (∀ q, cw_O L K 0 q → r q 0 ≠ x) → A2 x = A x) → Q z2 A2) : wp_c8_setUpGoal L K z1 r A1 V g u Q := by
  have hg0 := hF.1
  obtain ⟨-, ⟨s1, s2, s3⟩, ⟨w1, w2, w3⟩⟩ := h2 g hg0
  have S0 := hF.2.1
  have S1 := hF.2.2.1
  obtain ⟨o1, o2, o3⟩ := s3 0 (by omega)
  obtain ⟨q1, q2, q3⟩ := s3 1 (by omega)
  have f0 := S0.2.2.1
  have f1 := S1.2.1
  obtain ⟨-, -, -, -, -, ⟨n1, n2, n3, n4⟩⟩ := h7 _ q1
  obtain ⟨⟨c1, c2, c3, c4⟩, -, -, ⟨p1, p2, p3, p4⟩, ⟨k1, k2, k3, k4⟩, -, -, -⟩ := h8 V hV
  have VB : ∀ b, cw_O L K 0 b → b ≠ V := fun b hb => cw_O_ne hb hV (by decide)
  have nf : ∀ q, cw_O L K 0 q → r q 0 ≠ r V 3 := cg_dig hdg p3 hV (by decide)
  have nw : ∀ i, i < 20 → ∀ q, cw_O L K 0 q → r q 0 ≠ cw_g K (r g 3) i := fun i hi => cd_dig U.1.1 (w3 i hi).1 (by decide)
  have wl : ∀ i : Nat, i < 20 → ((A (cw_g K (r g 3) i) 0).natAbs : Int) ≤ 400000000000 := by
    intro i hi
    have := cg_W_le (K := K) (r := r) (A := A) (g := g) (i := i) (j := 0) hi (by omega)
    have := hF.2.2.2.1
    omega
  have Aw : ∀ z2 A2, cU L K r ρ S V R a c z A z2 A2 → ∀ i, i < 20 → A2 (cw_g K (r g 3) i) = A (cw_g K (r g 3) i) := fun z2 A2 U2 i hi => U2.2.2.2.2.2 _ (nw i hi)
  have sF : ∀ z2 A2, cU L K r ρ S V R a c z A z2 A2 → cs_F L K r z2 A2 (cw_g K (r g 1) 0) := fun z2 A2 U2 => cs_F_keep h7 S0 U2.2.1 (by rw [o3]; exact hg)
  -- a state with another shift
  have shift : ∀ (z2 A2 : Nat → Nat → Int) (v : Int), cU L K r ρ S V R a c z A z2 A2 → cU L K r ρ S V R a c (cw_s z V 8 v) A (cw_s z2 V 8 v) A2 := by
    intro z2 A2 v ⟨j2, F2, o2, B2, t2, x2⟩
    refine ⟨⟨cb_all_z j2.1 (fun q hq => cw_s_a (VB q hq)), j2.2⟩, fun x hx => ⟨?_, (F2 x hx).2⟩, fun x hx => ?_, cz_B_keep h8 hV hR hc B2 (fun q hq => cb_v_s q (VB q hq)), by rw [cb_v_s _ (VB _ k1)]; exact t2, x2⟩
    · by_cases e : x = V
      · rw [e] at hx; exact absurd hVS hx
      · rw [cw_s_a e, cw_s_a e]; exact (F2 x hx).1
    · by_cases e : x = V
      · subst e
        have := o2 x hx
        unfold cw_s
        rw [lp_U_same, lp_U_same, this]
      · rw [cw_s_a e, cw_s_a e]; exact o2 x hx
  -- the sets of B with nothing before them
  have two : ∀ (z2 A2 : Nat → Nat → Int) (v : Int), (v.natAbs : Int) ≤ 400000000001 * 11 → cU L K r ρ S V R a c (cw_s z V 8 v) A z2 A2 → wp_c8_setUpGoal_101 L K z2 r A2 V (cw_g K (r g 1) 1) 0 Q := by
    intro z2 A2 v hv U2 PP hPP
    have key : ∀ (k n : Nat) (z3 A3 : Nat → Nat → Int) (x y : Int), n + (k : Int) = z (cw_g K (r g 1) 1) 0 → x = (n : Int) → (y.natAbs : Int) ≤ 400000000001 * 11 + (n : Int) * (400000000001 * 512) → cU L K r ρ S V R a c (cw_s z V 8 y) A z3 A3 → PP z3 A3 x := by
      intro k
      induction k with
      | zero =>
        intro n z3 A3 x y hk ex hy U3
        have es : z3 (cw_g K (r g 1) 1) = z (cw_g K (r g 1) 1) := by rw [cU_z U3 q1 (by decide), cw_s_a (cw_O_ne q1 hV (by decide))]
        have ev := cU_z U3 hV (by decide)
        obtain ⟨j3, F3, o3', B3, t3, x3⟩ := U3
        refine hPP z3 A3 x ⟨q1, by omega, by rw [es]; omega, fun _ => hQ z3 A3 j3 (fun x hx => ⟨?_, (F3 x hx).2⟩) (fun k hk => by rw [ev, cw_s_k hk]) B3 t3 (by rw [ev, cw_s_same]; omega) x3, fun c9 => by rw [es] at c9; omega⟩
        rw [(F3 x hx).1, cw_s_a (fun e => hx (by rw [e]; exact hVS))]
      | succ k ih =>
        intro n z3 A3 x y hk ex hy U3
        subst ex
        have en : ((n : Int)).toNat = n := by omega
        have es : z3 (cw_g K (r g 1) 1) = z (cw_g K (r g 1) 1) := by rw [cU_z U3 q1 (by decide), cw_s_a (cw_O_ne q1 hV (by decide))]
        have ev := cU_z U3 hV (by decide)
        have v4 : z3 V 4 = (R : Int) := by rw [ev, cw_s_k (by decide)]; exact e4
        have v6 : z3 V 6 = (a : Int) + 1 := by rw [ev, cw_s_k (by decide)]; exact e6
        have rg := (U3.1.2 (r (cw_g K (r g 1) 1) 7)).1 n1 ((n : Int)).toNat
        have fn := hf n (by omega)
        refine hPP z3 A3 n ⟨q1, by omega, by rw [es]; omega, fun c9 => by rw [es] at c9; omega, fun _ => ⟨n1, by omega, rg, fun _ x1 e1 => ih (n + 1) z3 A3 x1 y (by omega) (by omega) (by omega) U3, fun _ => ⟨hV, ?_⟩⟩⟩
        rw [v4, v6]
        refine wq_c8_cell h8 hV (by omega) (by omega) (cU_put h1 h8 hV hVS hR hc U3 (by omega) (by omega) ?_ (fun z4 A4 U4 => ⟨p1, by omega, fun z5 e5' x1 e1 => ?_⟩))
        · rw [cz_b_set (by omega) (by omega)]; decide
        · have ev4 := cU_z U4 hV (by decide)
          have y4 : z4 V 8 = y := by rw [ev4, cw_s_same]
          have ef : A4 (r V 3) = A (r V 3) := U4.2.2.2.2.2 _ nf
          rw [y4, ef, en] at e5'
          refine ih (n + 1) z5 A4 x1 (y - A (r V 3) n) (by omega) (by omega) (by omega) ?_
          obtain ⟨j4, F4, o4', B4, t4, x4⟩ := U4
          rw [e5']
          refine ⟨⟨cb_all_z j4.1 (fun q hq => cw_s_a (VB q hq)), j4.2⟩, fun x hx => ⟨?_, (F4 x hx).2⟩, fun x hx => ?_, cz_B_keep h8 hV hR hc B4 (fun q hq => cb_v_s q (VB q hq)), by rw [cb_v_s _ (VB _ k1)]; exact t4, x4⟩
          · by_cases e : x = V
            · rw [e] at hx; exact absurd hVS hx
            · rw [cw_s_a e, cw_s_a e, (F4 x hx).1, cw_s_a e]
          · by_cases e : x = V
            · subst e
              have := o4' x hx
              unfold cw_s at this ⊢
              rw [lp_U_same] at this
              rw [lp_U_same, lp_U_same, this, lp_U_U]
            · rw [cw_s_a e, cw_s_a e, o4' x hx, cw_s_a e]
    exact key (z (cw_g K (r g 1) 1) 0).toNat 0 z2 A2 0 v (by omega) rfl (by omega) U2
  refine ⟨hg0, s1, by omega, by omega, ?_⟩
  show wp_c8_setUpGoal_19 L K z1 r A1 V g u (cw_g K (r g 1) 0) (cw_g K (r g 1) 1) 1 Q
  intro PP hPP
  have key : ∀ (k n : Nat) (z2 A2 : Nat → Nat → Int) (x : Int), n + k = a + 1 → 1 ≤ n → x = (n : Int) → cU L K r ρ S V R a c z A z2 A2 → PP z2 A2 x := by
    intro k
    induction k with
    | zero =>
      intro n z2 A2 x hk hn ex U2
      have ev := cU_z U2 hV (by decide)
      refine hPP z2 A2 x ⟨hV, by omega, by rw [ev, e6]; omega, fun _ => ⟨hg0, w1, by omega, (w3 0 (by omega)).1, ?_, o1, wq_c7_countChildren h7 (sF z2 A2 U2) (by decide) U2.1.2 (fun v v0 v1 => ⟨by omega, fun y yr ye z3 e3 => ?_⟩)⟩, fun c9 => by rw [ev, e6] at c9; omega⟩
      · show (0 : Int) ≤ 0 ∧ 0 < (cw_n K (cw_g K (r g 3) 0) : Int)
        rw [(w3 0 (by omega)).2.1]; omega
      · have w0 := wl 0 (by omega)
        have t0 : 0 ≤ u * v := Int.mul_nonneg hu.1 v0
        have t1 : u * v ≤ 400000000001 * 10 := Int.mul_le_mul hu.2 v1 v0 (by decide)
        have eA : A2 (cw_g K (r g 3) ((0 : Int).toNat)) ((0 : Int).toNat) = A (cw_g K (r g 3) 0) 0 := by
          show A2 (cw_g K (r g 3) 0) 0 = _
          rw [Aw z2 A2 U2 0 (by omega)]
        rw [eA] at ye
        generalize u * v = t at *
        rw [e3]
        exact two _ A2 y (by omega) (shift z2 A2 y U2)
    | succ k ih =>
      intro n z2 A2 x hk hn ex U2
      subst ex
      have ev := cU_z U2 hV (by decide)
      have en : ((n : Int)).toNat = n := by omega
      have wn := wl n (by omega)
      refine hPP z2 A2 n ⟨hV, by omega, by rw [ev, e6]; omega, fun c9 => by rw [ev, e6] at c9; omega, fun _ => ⟨hg0, w1, by omega, by rw [en]; exact (w3 n (by omega)).1, by rw [en, (w3 n (by omega)).2.1]; omega, o1, wq_c7_countChildren h7 (sF z2 A2 U2) (by omega) U2.1.2 (fun v v0 v1 => ⟨by omega, fun y ye => ?_⟩)⟩⟩
      rw [ev, e4]
      refine wq_c8_cell h8 hV (by omega) (by omega) (cU_put h1 h8 hV hVS hR hc U2 (by omega) (by omega) ?_ (fun z3 A3 U3 x1 e1 => ih (n + 1) z3 A3 x1 (by omega) (by omega) (by omega) U3))
      rw [show ((R : Int)).toNat = R by omega, cz_b_goal (by omega) (by omega)]
      rw [en, Aw z2 A2 U2 n (by omega)] at ye
      have ye : y = A (cw_g K (r g 3) n) 0 + u * (1 - v) := ye
      have t0 : -(400000000001 * 9) ≤ u * (1 - v) := by
        have h9 : u * (v - 1) ≤ 400000000001 * 9 := by
          by_cases hv1 : v = 0
          · rw [hv1]; omega
          · exact Int.mul_le_mul hu.2 (by omega) (by omega) (by decide)
        have : u * (1 - v) = -(u * (v - 1)) := by rw [← Int.mul_neg]; congr 1; omega
        omega
      have t1 : u * (1 - v) ≤ 400000000001 := by
        have : u * (1 - v) ≤ u * 1 := Int.mul_le_mul_of_nonneg_left (by omega) hu.1
        omega
      generalize u * (1 - v) = t at *
      omega
  exact key a 1 z1 A1 1 (by omega) (by omega) rfl U
end CZ

-- 18.b27
noncomputable def cPr (f : Nat → Nat) : Nat → Nat
  | 0 => 1
  | n + 1 => cPr f n * f n
theorem cPr_pos {f : Nat → Nat} {n : Nat} (h : ∀ k, k < n → 1 ≤ f k) : 1 ≤ cPr f n := by
  induction n with
  | zero => exact Nat.le_refl 1
  | succ n ih =>
    have h1 := ih (fun k hk => h k (by omega))
    have h2 := h n (by omega)
    simp only [cPr]
    exact Nat.mul_le_mul h1 h2
theorem cPr_le {f g : Nat → Nat} {n : Nat} (h : ∀ k, k < n → f k ≤ g k) : cPr f n ≤ cPr g n := by
  induction n with
  | zero => exact Nat.le_refl 1
  | succ n ih => simp only [cPr]; exact Nat.mul_le_mul (ih (fun k hk => h k (by omega))) (h n (by omega))
theorem cPr_congr {f g : Nat → Nat} {n : Nat} (h : ∀ k, k < n → f k = g k) : cPr f n = cPr g n := by
  induction n with
  | zero => rfl
  | succ n ih => simp only [cPr]; rw [ih (fun k hk => h k (by omega)), h n (by omega)]
theorem cPr_one {f g : Nat → Nat} {n i X : Nat} (h : ∀ k, k < n → k ≠ i → f k ≤ g k) (hi : f i ≤ X) (hX : 1 ≤ X) (hg : ∀ k, 1 ≤ g k) : cPr f n ≤ X * cPr g n := by
  induction n with
  | zero => simp only [cPr]; omega
  | succ n ih =>
    simp only [cPr]
    by_cases e : n = i
    · subst e
      have h1 := cPr_le (f := f) (g := g) (n := n) (fun k hk => h k (by omega) (by omega))
      have h2 : cPr f n * f n ≤ cPr g n * X := Nat.mul_le_mul h1 hi
      have h3 : cPr g n * X ≤ X * (cPr g n * g n) := by
        rw [Nat.mul_comm (cPr g n) X]
        exact Nat.mul_le_mul_left X (Nat.le_mul_of_pos_right _ (hg n))
      omega
    · have h1 := ih (fun k hk hk2 => h k (by omega) hk2)
      rw [← Nat.mul_assoc]
      exact Nat.mul_le_mul h1 (h n (by omega) e)
theorem cPr_upd {c : Nat → Nat} {N x : Nat} (hx : x < N) : cPr c N = c x * cPr (lp_U c x 1) N := by
  induction N with
  | zero => omega
  | succ n ih =>
    simp only [cPr]
    by_cases e : x = n
    · subst e
      rw [lp_U_same, Nat.mul_one, cPr_congr (f := lp_U c x 1) (g := c) (fun k hk => lp_U_other (by omega)), Nat.mul_comm]
    · rw [ih (by omega), lp_U_other (by omega), Nat.mul_assoc]
theorem cPr_inj {m : Nat} : ∀ (c β : Nat → Nat) (N : Nat), (∀ l, 1 ≤ c l) → (∀ k, k < m → β k < N) → (∀ i j, i < m → j < m → β i = β j → i = j) → cPr (fun k => c (β k)) m ≤ cPr c N := by
  induction m with
  | zero =>
    intro c β N hc _ _
    exact cPr_pos (fun k _ => hc k)
  | succ m ih =>
    intro c β N hc hb hinj
    have h1 := ih (lp_U c (β m) 1) β N (fun l => by unfold lp_U; split; exact Nat.le_refl 1; exact hc l) (fun k hk => hb k (by omega)) (fun i j hi hj e => hinj i j (by omega) (by omega) e)
    have h2 : cPr (fun k => lp_U c (β m) 1 (β k)) m = cPr (fun k => c (β k)) m := cPr_congr (fun k hk => lp_U_other (fun e => by have := hinj k m (by omega) (by omega) e; omega))
    rw [cPr_upd (c := c) (hb m (by omega))]
    simp only [cPr]
    rw [← h2, Nat.mul_comm]
    exact Nat.mul_le_mul_left _ h1
theorem lp_E_bound' {b : Nat → Nat → Int} {n : Nat} {S : List Nat} {f : Nat → Nat} (h : ∀ k, k < n → lp_A (b k) S ≤ f k) : (lp_E b n S).natAbs ≤ cPr f n := by
  have key : ∀ T, List.Sublist T S → (lp_E b n T).natAbs ≤ cPr f n := by
    induction n with
    | zero =>
      intro T _
      simp only [lp_E, cPr]
      split <;> simp
    | succ n ih =>
      intro T hT
      simp only [lp_E, cPr]
      refine Nat.le_trans (lp_X_bound (C := cPr f n) (fun U hU => ih (fun k hk => h k (by omega)) U (hU.trans hT))) ?_
      rw [Nat.mul_comm]
      exact Nat.mul_le_mul_left _ (Nat.le_trans (lp_A_sub hT) (h n (by omega)))
  exact key S (List.Sublist.refl S)
theorem lz_A_le {v : Nat → Int} {c n : Nat} (h : ∀ t, t < n → (v t).natAbs ≤ c) : lp_A v (lp_L n) ≤ n * c := by
  induction n with
  | zero => simp [lp_L, lp_A]
  | succ n ih =>
    simp only [lp_L, lp_A]
    have h1 := ih (fun t ht => h t (by omega))
    have h2 := h n (by omega)
    rw [Nat.add_mul]
    omega
/-- the columns of the first table, and what is left of each row -/
noncomputable def lz_M (T : Nat → Nat → Int) (m : Nat) (l : Nat) : Nat → Int := fun t => if l < 100 then (if t ≤ m then T t l else 0) else lp_e (l - 100) t
/-- how large a column may be -/
noncomputable def lz_c (a c l : Nat) : Nat := if l < a then 17592186044416 else if l < c then 32 else 1
theorem lz_c_pos (a c l : Nat) : 1 ≤ lz_c a c l := by
  unfold lz_c
  split
  · decide
  · split <;> decide
theorem lz_e_A (k n : Nat) : lp_A (lp_e k) (lp_L n) ≤ 1 := by
  induction n with
  | zero => simp [lp_L, lp_A]
  | succ n ih =>
    simp only [lp_L, lp_A]
    by_cases e : n = k
    · have h0 : lp_A (lp_e k) (lp_L n) ≤ n * 0 := lz_A_le (c := 0) (fun t ht => by rw [lp_e_other (by omega)]; decide)
      rw [e, lp_e_same]
      rw [e] at h0
      have : (1 : Int).natAbs = 1 := by decide
      omega
    · rw [lp_e_other e]
      have : (0 : Int).natAbs = 0 := by decide
      omega
/-- a table within its bounds -/
noncomputable def lz_B (T : Nat → Nat → Int) (m a c : Nat) : Prop := ∀ i j : Nat, i ≤ m → j ≤ c → ((T i j).natAbs : Int) ≤ cz_b m a c i j
theorem lz_col {T : Nat → Nat → Int} {m a c l : Nat} (hB : lz_B T m a c) (hm : m ≤ 29) (hac : a ≤ c) (hc : c ≤ 29) (hl : l < c ∨ 100 ≤ l) : lp_A (lz_M T m l) (lp_L (m + 1)) ≤ lz_c a c l := by
  rcases hl with hl | hl
  · have e : ∀ t, t ≤ m → lz_M T m l t = T t l := fun t ht => by unfold lz_M; rw [if_pos (by omega), if_pos ht]
    by_cases ha : l < a
    · simp only [lp_L, lp_A]
      have h1 : lp_A (lz_M T m l) (lp_L m) ≤ m * 400000000000 := lz_A_le (fun t ht => by
        rw [e t (by omega)]
        have := hB t l (by omega) (by omega)
        rw [cz_b_in ht ha hac] at this
        omega)
      have h2 : (lz_M T m l m).natAbs ≤ 5000000000000 := by
        rw [e m (Nat.le_refl m)]
        have := hB m l (Nat.le_refl m) (by omega)
        rw [cz_b_goal ha hac] at this
        omega
      have h3 : m * 400000000000 ≤ 29 * 400000000000 := Nat.mul_le_mul_right _ hm
      unfold lz_c
      rw [if_pos ha]
      omega
    · have h1 : lp_A (lz_M T m l) (lp_L (m + 1)) ≤ (m + 1) * 1 := lz_A_le (fun t ht => by
        rw [e t (by omega)]
        have := hB t l (by omega) (by omega)
        rw [cz_b_set (by omega) hl] at this
        omega)
      unfold lz_c
      rw [if_neg ha, if_pos hl]
      omega
  · have e : lz_M T m l = lp_e (l - 100) := by
      funext t
      unfold lz_M
      rw [if_neg (by omega)]
    rw [e]
    unfold lz_c
    rw [if_neg (by omega), if_neg (by omega)]
    exact lz_e_A _ _
theorem lz_bcol {T : Nat → Nat → Int} {m a c : Nat} (hB : lz_B T m a c) (hm : m ≤ 29) (hc : c ≤ 29) : lp_A (lz_M T m c) (lp_L (m + 1)) ≤ 144115188075855872 := by
  have h1 : lp_A (lz_M T m c) (lp_L (m + 1)) ≤ (m + 1) * 4503599627370496 := lz_A_le (fun t ht => by
    unfold lz_M
    rw [if_pos (by omega), if_pos (by omega)]
    have := hB t c (by omega) (Nat.le_refl c)
    rw [cz_b_bound] at this
    omega)
  have h2 : (m + 1) * 4503599627370496 ≤ 30 * 4503599627370496 := Nat.mul_le_mul_right _ (by omega)
  omega
theorem lz_prod {a c : Nat} (ha : a ≤ 19) (hac : a ≤ c) (hc : c ≤ a + 10) : cPr (lz_c a c) 200 ≤ 17592186044416 ^ 19 * 32 ^ 10 := by
  have key : ∀ n, cPr (lz_c a c) n ≤ 17592186044416 ^ (min n a) * 32 ^ (min n c - min n a) := by
    intro n
    induction n with
    | zero => simp [cPr]
    | succ n ih =>
      simp only [cPr]
      refine Nat.le_trans (Nat.mul_le_mul_right _ ih) ?_
      unfold lz_c
      by_cases h1 : n < a
      · rw [if_pos h1, show min (n + 1) a = min n a + 1 by omega, show min (n + 1) c - (min n a + 1) = min n c - min n a by omega, Nat.pow_succ, Nat.mul_right_comm]
        exact Nat.le_refl _
      · by_cases h2 : n < c
        · rw [if_neg h1, if_pos h2, show min (n + 1) a = min n a by omega, show min (n + 1) c - min n a = min n c - min n a + 1 by omega, Nat.pow_succ, Nat.mul_assoc]
          exact Nat.le_refl _
        · rw [if_neg h1, if_neg h2, show min (n + 1) a = min n a by omega, show min (n + 1) c = min n c by omega, Nat.mul_one]
          exact Nat.le_refl _
  refine Nat.le_trans (key 200) (Nat.mul_le_mul (Nat.pow_le_pow_right (by decide) (by omega)) (Nat.pow_le_pow_right (by decide) (by omega)))
/-- labels -/
noncomputable def lz_L (m c l : Nat) : Prop := l < c ∨ (100 ≤ l ∧ l < 100 + m)
/-- every cell that may come: below 2^943 -/
theorem lz_size {T : Nat → Nat → Int} {m a c X : Nat} {β : Nat → Nat} (hB : lz_B T m a c) (hm : m ≤ 29) (ha : a ≤ 19) (hac : a ≤ c) (hc : c ≤ a + 10) (hd : lp_d m (lz_M T m) β ≠ 0) (hβ : ∀ k, k < m → lz_L m c (β k)) {i : Nat} {x : Nat → Int} (hx : lp_A x (lp_L (m + 1)) ≤ X) (hX : 1 ≤ X) : (lp_R m (lz_M T m) β i x).natAbs ≤ X * (17592186044416 ^ 19 * 32 ^ 10) := by
  unfold lp_R
  have hinj : ∀ i j, i < m → j < m → β i = β j → i = j := fun i j hi hj e => lp_inj hd hi hj e
  obtain ⟨g, hg⟩ : ∃ g : Nat → Nat, g = fun k => if k < m then lz_c a c (β k) else 1 := ⟨_, rfl⟩
  have g1 : ∀ k, 1 ≤ g k := by
    intro k
    rw [hg]
    show 1 ≤ if k < m then lz_c a c (β k) else 1
    split
    · exact lz_c_pos _ _ _
    · exact Nat.le_refl 1
  refine Nat.le_trans (lp_E_bound' (f := fun k => if k = i then X else g k) (fun k hk => ?_)) ?_
  · show lp_A (lp_U (lp_b m (lz_M T m) β) i x k) _ ≤ if k = i then X else g k
    by_cases e : k = i
    · rw [if_pos e, e, lp_U_same]; exact hx
    · rw [if_neg e, lp_U_other e, hg]
      show lp_A (lp_b m (lz_M T m) β k) _ ≤ if k < m then lz_c a c (β k) else 1
      by_cases hkm : k < m
      · rw [if_pos hkm, lp_b_at hkm]
        exact lz_col hB hm hac (by omega) (by rcases hβ k hkm with q | q; exact Or.inl q; exact Or.inr q.1)
      · have : k = m := by omega
        rw [if_neg hkm, this, lp_b_goal]
        exact lz_e_A _ _
  · refine Nat.le_trans (cPr_one (g := g) (i := i) (X := X) (fun k _ hki => by show (if k = i then X else g k) ≤ g k; rw [if_neg hki]; exact Nat.le_refl _) (by show (if i = i then X else g i) ≤ X; rw [if_pos rfl]; exact Nat.le_refl _) hX g1) ?_
    refine Nat.mul_le_mul_left X ?_
    have e1 : cPr g (m + 1) = cPr (fun k => lz_c a c (β k)) m := by
      simp only [cPr]
      have : g m = 1 := by
        rw [hg]
        show (if m < m then lz_c a c (β m) else 1) = 1
        rw [if_neg (by omega)]
      rw [this, Nat.mul_one]
      refine cPr_congr (fun k hk => ?_)
      rw [hg]
      show (if k < m then lz_c a c (β k) else 1) = _
      rw [if_pos hk]
    rw [e1]
    refine Nat.le_trans (cPr_inj (lz_c a c) β 200 (fun l => lz_c_pos a c l) (fun k hk => by rcases hβ k hk with q | q <;> omega) hinj) (lz_prod ha hac hc)
theorem lz_size_d {T : Nat → Nat → Int} {m a c : Nat} {β : Nat → Nat} (hB : lz_B T m a c) (hm : m ≤ 29) (ha : a ≤ 19) (hac : a ≤ c) (hc : c ≤ a + 10) (hd : lp_d m (lz_M T m) β ≠ 0) (hβ : ∀ k, k < m → lz_L m c (β k)) : (lp_d m (lz_M T m) β).natAbs ≤ 17592186044416 ^ 19 * 32 ^ 10 := by
  have h := lz_size hB hm ha hac hc hd hβ (i := m) (x := lp_e m) (X := 1) (lz_e_A _ _) (Nat.le_refl 1)
  have e : lp_R m (lz_M T m) β m (lp_e m) = lp_d m (lz_M T m) β := by
    unfold lp_R lp_d
    have : lp_U (lp_b m (lz_M T m) β) m (lp_e m) = lp_b m (lz_M T m) β := by
      rw [← lp_b_goal m (lz_M T m) β, lp_U_self]
    rw [this]
  rw [e] at h
  omega
theorem lz_fits : ((144115188075855872 * (17592186044416 ^ 19 * 32 ^ 10) : Nat) : Int) < 4294967296 ^ 30 := by decide +kernel

-- 18.b28
/-- no cell of any table is as large -/
noncomputable def cz_M : Int := 4294967296 ^ 30
theorem cz_M_pos : 0 < cz_M := cb_p 30
theorem cz_M_64 : cz_M * cz_M + cz_M * cz_M < 4294967296 ^ 64 := by
  unfold cz_M
  decide +kernel
theorem cz_pos {t : Int} (h : 0 ≤ t) (h0 : ¬ t = 0) : 0 < t := by omega
theorem cz_abs0 {t : Int} (h : (t.natAbs : Int) = 0) : t = 0 := by omega
theorem cz_sgn {d t s : Int} (hd : 0 < d) (e : (if s = 1 then -(d * (t.natAbs : Int)) else d * (t.natAbs : Int)) = d * t) : (if s = 1 then -(t.natAbs : Int) else (t.natAbs : Int)) = t := by
  by_cases hs : s = 1
  · rw [if_pos hs] at e ⊢
    rw [← Int.mul_neg] at e
    exact Int.eq_of_mul_eq_mul_left (by omega) e
  · rw [if_neg hs] at e ⊢
    exact Int.eq_of_mul_eq_mul_left (by omega) e
section CZ
variable {L : List Nat} {K : Nat → cw_K} {r : Nat → Nat → Nat} {z A : Nat → Nat → Int} {w : Nat → Nat × Nat} {ρ : Nat → Nat} {S : Nat → Prop} {V : Nat}
theorem cb_abs (r : Nat → Nat → Nat) (z A : Nat → Nat → Int) (b : Nat) : ((cb_v r z A b).natAbs : Int) = cb_u r z A b := by
  have := cb_u_nn r z A b
  unfold cb_v
  split <;> omega
set_option maxHeartbeats 1000000 in
/-- cell := (cell * pivot - inColumn * inRow) / scale -/
theorem wq_c8_renew {x p y q : Nat} {d t : Int} (h : cJ L K r z A) (h1 : cg_1 L K r w ρ) (h8 : cg_8 L K r w ρ) (hV : cw_O L K 8 V) (hVS : S (ρ V)) (hx : cw_O L K 0 x) (hp : cw_O L K 0 p) (hy : cw_O L K 0 y) (hq : cw_O L K 0 q) (xn : cw_n K (r x 0) = 32) (pn : cw_n K (r p 0) = 32) (yn : cw_n K (r y 0) = 32) (qn : cw_n K (r q 0) = 32) (xS : ρ x = ρ V)
    (hne : ∀ k, (k = x ∨ k = p ∨ k = y ∨ k = q) → k ≠ r V 10 ∧ k ≠ r V 11 ∧ k ≠ r (r V 12) 0) (hP : cd_P r z A (r V 12) d) (hd : 0 < d) (ht : cb_v r z A x * cb_v r z A p - cb_v r z A y * cb_v r z A q = d * t) (hb : (t.natAbs : Int) < cz_M) (bx : cb_u r z A x < cz_M) (bp : cb_u r z A p < cz_M) (by' : cb_u r z A y < cz_M) (bq : cb_u r z A q < cz_M)
    {Q : (Nat → Nat → Int) → (Nat → Nat → Int) → Prop} (hQ : ∀ z' A' : Nat → Nat → Int, cJ L K r z' A' → cF ρ S z A z' A' → (∀ b, cw_O L K 0 b → b ≠ x → b ≠ r V 10 → b ≠ r V 11 → cb_v r z' A' b = cb_v r z A b ∧ cb_u r z' A' b = cb_u r z A b) → (∀ a, a ≠ x → a ≠ r V 10 → a ≠ r V 11 → z' a = z a) → (∀ a, (∀ b, cw_O L K 0 b → r b 0 ≠ a) → A' a = A a) → cb_v r z' A' x = t → Q z' A') : wp_c8_renew L K z r A V x p y q Q := by
  obtain ⟨-, -, -, -, -, ⟨l1, l2, l3, l4⟩, ⟨m1, m2, m3, m4⟩, ⟨d1, d2, d3⟩⟩ := h8 V hV
  obtain ⟨o1, o2, o3, o4⟩ := h1.2 _ d1
  have lS : S (ρ (r V 10)) := by rw [l4]; exact hVS
  have mS : S (ρ (r V 11)) := by rw [m4]; exact hVS
  have lm : r V 10 ≠ r V 11 := cg_ne l3 m3 (by simp)
  have ol : r (r V 12) 0 ≠ r V 10 := cg_ne o3 l3 (by simp)
  have om : r (r V 12) 0 ≠ r V 11 := cg_ne o3 m3 (by simp)
  obtain ⟨nx1, nx2, nx3⟩ := hne x (Or.inl rfl)
  obtain ⟨np1, np2, np3⟩ := hne p (Or.inr (Or.inl rfl))
  obtain ⟨ny1, ny2, ny3⟩ := hne y (Or.inr (Or.inr (Or.inl rfl)))
  obtain ⟨nq1, nq2, nq3⟩ := hne q (Or.inr (Or.inr (Or.inr rfl)))
  have kx := (h.1.2 _ hx).1
  have kp := (h.1.2 _ hp).1
  have ky := (h.1.2 _ hy).1
  have kq := (h.1.2 _ hq).1
  -- the end: divided, and copied
  have fin : ∀ z1 A1 : Nat → Nat → Int, cJ L K r z1 A1 → cF ρ S z A z1 A1 → (∀ b, cw_O L K 0 b → b ≠ r V 10 → b ≠ r V 11 → cb_v r z1 A1 b = cb_v r z A b ∧ cb_u r z1 A1 b = cb_u r z A b) → (∀ a, a ≠ r V 10 → a ≠ r V 11 → z1 a = z a) → (∀ a, (∀ b, cw_O L K 0 b → r b 0 ≠ a) → A1 a = A a) → cb_v r z1 A1 (r V 10) = d * t → wp_c8_renew_77 L K z1 r A1 V x Q := by
    intro z1 A1 j1 F1 v1 o1' a1 e1
    have hP1 : cd_P r z1 A1 (r V 12) d := by
      unfold cd_P at hP ⊢
      rw [o1' _ (cw_O_ne d1 l1 (by decide)) (cw_O_ne d1 m1 (by decide)), o1' _ ol om, (v1 _ o1 ol om).2]
      exact hP
    refine ⟨hV, d1, wq_c1_divide j1.1 d1 o1 l1 ol hP1 (fun z2 A2 k2 hY2 _ hx2 => ⟨hx, ?_⟩)⟩
    have ul : cb_u r z1 A1 (r V 10) = d * (t.natAbs : Int) := by
      rw [← cb_abs, e1, Int.natAbs_mul, Int.natCast_mul]
      rw [show ((d.natAbs : Nat) : Int) = d by omega]
    obtain ⟨u2, s2⟩ := hx2 ⟨(t.natAbs : Int), ul⟩
    rw [ul, Int.mul_ediv_cancel_left _ (by omega)] at u2
    have v2 : cb_v r z2 A2 (r V 10) = t := by
      have k0 := cb_u0 (k2.2 _ l1) k2.1 l1
      have p0 := (k2.2 _ l1).1.1
      by_cases hz : z2 (r V 10) 1 = 0
      · have hu := k0.mp hz
        have hv := (cb_v0 (k2.2 _ l1) k2.1 l1).mp hz
        rw [u2] at hu
        rw [hv]
        exact (cz_abs0 hu).symm
      · have sgn := s2 (cz_pos p0 hz)
        have e9 : cb_v r z1 A1 (r V 10) = if z1 (r V 10) 2 = 1 then - cb_u r z1 A1 (r V 10) else cb_u r z1 A1 (r V 10) := rfl
        have e8 : cb_v r z2 A2 (r V 10) = if z2 (r V 10) 2 = 1 then - cb_u r z2 A2 (r V 10) else cb_u r z2 A2 (r V 10) := rfl
        rw [e8, sgn, u2]
        rw [e9, ul] at e1
        exact cz_sgn hd e1
    have j2 := cJ_Y j1 l1 k2 hY2
    have len := cb_len (n := 30) (k2.2 _ l1) k2.1 l1 (by rw [u2]; exact hb)
    refine wq_c0_copy k2 hx l1 (by rw [xn]; omega) (fun z3 A3 k3 hY3 _ v3 _ _ => ?_)
    refine hQ z3 A3 (cJ_Y j2 hx k3 hY3) (cF_trans (cF_trans F1 (cF_Y h1 l1 lS hY2)) (cF_Y h1 hx (by rw [xS]; exact hVS) hY3)) (fun b hb bx bl bm => ?_) (fun a ax al am => by rw [hY3.1 a ax, hY2.1 a al]; exact o1' a al am) (fun a ha => by rw [hY3.2 a (Ne.symm (ha _ hx)), hY2.2 a (Ne.symm (ha _ l1))]; exact a1 a ha) (by rw [v3]; exact v2)
    have e3 := cb_k_other k2.1 hx hb bx hY3
    have e2 := cb_k_other j1.1.1 l1 hb bl hY2
    have e1' := v1 b hb bl bm
    exact ⟨by rw [e3.2.2, e2.2.2]; exact e1'.1, by rw [e3.2.1, e2.2.1]; exact e1'.2⟩
  have main : ∀ c : Int, ((c = 1) ∨ (c = 0 ∧ (cb_v r z A y = 0 ∨ cb_v r z A q = 0))) → wp_c8_renew_35 L K z r A V x p y q c Q := by
    intro c hc
    refine ⟨hV, l1, wq_c0_putProduct h.1 l1 hx hp nx1 np1 (by omega) (fun z1 A1 k1 hY1 v1 len1 => ⟨by omega, fun c0 => ?_, fun c0 => ⟨m1, ?_⟩⟩)⟩
    · have j1 := cJ_Y h l1 k1 hY1
      refine fin z1 A1 j1 (cF_Y h1 l1 lS hY1) (fun b hb bl _ => ⟨(cb_k_other h.1.1 l1 hb bl hY1).2.2, (cb_k_other h.1.1 l1 hb bl hY1).2.1⟩) (fun a al _ => hY1.1 a al) (fun a ha => hY1.2 a (Ne.symm (ha _ l1))) ?_
      rw [v1, ← ht]
      have : cb_v r z A y * cb_v r z A q = 0 := by
        rcases hc with q9 | ⟨-, q9 | q9⟩
        · omega
        · rw [q9, Int.zero_mul]
        · rw [q9, Int.mul_zero]
      omega
    · have j1 := cJ_Y h l1 k1 hY1
      have ly : z1 y = z y := hY1.1 y ny1
      have lq : z1 q = z q := hY1.1 q nq1
      refine wq_c0_putProduct k1 m1 hy hq ny2 nq2 (by rw [ly, lq]; omega) (fun z2 A2 k2 hY2 v2 len2 => ?_)
      have j2 := cJ_Y j1 m1 k2 hY2
      refine wq_c0_negate k2 m1 (fun z3 k3 hY3 v3 l3' => ?_)
      have j3 : cJ L K r z3 A2 := cJ_Y j2 m1 k3 hY3
      have vl3 : cb_v r z3 A2 (r V 10) = cb_v r z A x * cb_v r z A p := by
        rw [(cb_k_other k2.1 m1 l1 lm hY3).2.2, (cb_k_other k1.1 m1 l1 lm hY2).2.2, v1]
      have vm3 : cb_v r z3 A2 (r V 11) = -(cb_v r z A y * cb_v r z A q) := by
        rw [v3, v2, (cb_k_other h.1.1 l1 hy ny1 hY1).2.2, (cb_k_other h.1.1 l1 hq nq1 hY1).2.2]
      have ul3 : cb_u r z3 A2 (r V 10) ≤ cz_M * cz_M := by
        have e : cb_u r z3 A2 (r V 10) = cb_u r z A x * cb_u r z A p := by rw [← cb_abs, vl3, Int.natAbs_mul, Int.natCast_mul, cb_abs, cb_abs]
        rw [e]
        exact Int.mul_le_mul (Int.le_of_lt bx) (Int.le_of_lt bp) (cb_u_nn _ _ _ _) (Int.le_of_lt cz_M_pos)
      have um3 : cb_u r z3 A2 (r V 11) ≤ cz_M * cz_M := by
        have e : cb_u r z3 A2 (r V 11) = cb_u r z A y * cb_u r z A q := by rw [← cb_abs, vm3, Int.natAbs_neg, Int.natAbs_mul, Int.natCast_mul, cb_abs, cb_abs]
        rw [e]
        exact Int.mul_le_mul (Int.le_of_lt by') (Int.le_of_lt bq) (cb_u_nn _ _ _ _) (Int.le_of_lt cz_M_pos)
      refine wq_c0_plus k3 l1 m1 (Ne.symm lm) ?_ (fun z4 A4 k4 hY4 v4 => ?_)
      · rw [l2]
        exact Int.lt_of_le_of_lt (Int.add_le_add ul3 um3) cz_M_64
      · have F4 : cF ρ S z A z4 A4 := cF_trans (cF_trans (cF_trans (cF_Y h1 l1 lS hY1) (cF_Y h1 m1 mS hY2)) (cF_Y h1 m1 mS hY3)) (cF_Y h1 l1 lS hY4)
        refine fin z4 A4 (cJ_Y j3 l1 k4 hY4) F4 (fun b hb bl bm => ?_) (fun a al am => by rw [hY4.1 a al, hY3.1 a am, hY2.1 a am, hY1.1 a al]) (fun a ha => by rw [hY4.2 a (Ne.symm (ha _ l1)), hY3.2 a (Ne.symm (ha _ m1)), hY2.2 a (Ne.symm (ha _ m1)), hY1.2 a (Ne.symm (ha _ l1))]) ?_
        · have e4 := cb_k_other k3.1 l1 hb bl hY4
          have e3 := cb_k_other k2.1 m1 hb bm hY3
          have e2 := cb_k_other k1.1 m1 hb bm hY2
          have e1 := cb_k_other h.1.1 l1 hb bl hY1
          exact ⟨by rw [e4.2.2, e3.2.2, e2.2.2, e1.2.2], by rw [e4.2.1, e3.2.1, e2.2.1, e1.2.1]⟩
        · rw [v4, vl3, vm3, ← ht]
          omega
  have zy := cb_v0 (h.1.2 _ hy) h.1.1 hy
  have zq := cb_v0 (h.1.2 _ hq) h.1.1 hq
  have zero : (cb_v r z A y = 0 ∨ cb_v r z A q = 0) → wp_c8_renew_20 L K z r A V x p y q 0 Q := by
    intro h0
    refine ⟨by decide, fun c9 => absurd rfl c9, fun _ => ⟨hx, by omega, fun _ => main 0 (Or.inr ⟨rfl, h0⟩), fun c9 => ?_⟩⟩
    have vx := (cb_v0 (h.1.2 _ hx) h.1.1 hx).mp c9
    have t0 : t = 0 := by
      rw [vx, Int.zero_mul] at ht
      have : cb_v r z A y * cb_v r z A q = 0 := by
        rcases h0 with q9 | q9
        · rw [q9, Int.zero_mul]
        · rw [q9, Int.mul_zero]
      rw [this] at ht
      rcases Int.mul_eq_zero.mp (show d * t = 0 by omega) with q9 | q9
      · omega
      · exact q9
    exact hQ z A h (cF_refl _ _ _ _) (fun _ _ _ _ _ => ⟨rfl, rfl⟩) (fun _ _ _ _ => rfl) (fun _ _ => rfl) (by rw [vx, t0])
  refine ⟨hy, by omega, fun c => zero (Or.inl (zy.mp (by omega))), fun c => ⟨hq, by omega, fun c2 => zero (Or.inr (zq.mp (by omega))), fun c2 => ⟨by decide, fun _ => main 1 (Or.inl rfl), fun c9 => by omega⟩⟩⟩
end CZ

-- 18.b29
section CZ
variable {L : List Nat} {K : Nat → cw_K} {r : Nat → Nat → Nat} {z A : Nat → Nat → Int} {w : Nat → Nat × Nat} {ρ : Nat → Nat} {S : Nat → Prop} {V m a c : Nat} {T : Nat → Nat → Int} {β γ : Nat → Nat}
/-- the column that stands at j -/
noncomputable def cz_x (T : Nat → Nat → Int) (m c : Nat) (γ : Nat → Nat) (j : Nat) : Nat → Int := if j < c then lz_M T m (γ j) else lz_M T m c
/-- the table in the cells is one of the minors of the first -/
noncomputable def cz_T (K : Nat → cw_K) (r : Nat → Nat → Nat) (z A : Nat → Nat → Int) (V m c : Nat) (T : Nat → Nat → Int) (β γ : Nat → Nat) : Prop :=
  lp_C (lp_b m (lz_M T m) β) (m + 1) ∧ 0 < lp_d m (lz_M T m) β ∧ cb_v r z A (r V 9) = lp_d m (lz_M T m) β ∧ (∀ i j, i ≤ m → j ≤ c → cb_v r z A (cw_g K (r V 0) (i * 30 + j)) = lp_R m (lz_M T m) β i (cz_x T m c γ j)) ∧ (∀ k, k < m → lz_L m c (β k)) ∧ ∀ j, j < c → lz_L m c (γ j)
noncomputable def cz_N : Nat := 17592186044416 ^ 19 * 32 ^ 10
theorem cz_N_fits : ((144115188075855872 * cz_N : Nat) : Int) < cz_M := by
  unfold cz_N cz_M
  decide +kernel
theorem lz_lt {x n : Nat} (h : x ≤ n * cz_N) (hn : n ≤ 144115188075855872) : (x : Int) < cz_M := by
  have h1 : n * cz_N ≤ 144115188075855872 * cz_N := Nat.mul_le_mul_right _ hn
  have h2 := cz_N_fits
  omega
theorem lz_c_le (a c l : Nat) : lz_c a c l ≤ 144115188075855872 := by
  unfold lz_c
  split
  · decide
  · split <;> decide
/-- every number of such a table has its room -/
theorem lz_cell (hB : lz_B T m a c) (hm : m ≤ 29) (ha : a ≤ 19) (hac : a ≤ c) (hc : c ≤ a + 10) (hd : lp_d m (lz_M T m) β ≠ 0) (hβ : ∀ k, k < m → lz_L m c (β k)) (hγ : ∀ j, j < c → lz_L m c (γ j)) (i j : Nat) : ((lp_R m (lz_M T m) β i (cz_x T m c γ j)).natAbs : Int) < cz_M := by
  unfold cz_x
  by_cases hj : j < c
  · rw [if_pos hj]
    have hl := hγ j hj
    refine lz_lt (lz_size hB hm ha hac hc hd hβ (X := lz_c a c (γ j)) (lz_col hB hm hac (by omega) (by rcases hl with q | q; exact Or.inl q; exact Or.inr q.1)) (lz_c_pos _ _ _)) (lz_c_le _ _ _)
  · rw [if_neg hj]
    exact lz_lt (lz_size hB hm ha hac hc hd hβ (X := 144115188075855872) (lz_bcol hB hm (by omega)) (by decide)) (Nat.le_refl _)
theorem lz_scale (hB : lz_B T m a c) (hm : m ≤ 29) (ha : a ≤ 19) (hac : a ≤ c) (hc : c ≤ a + 10) (hd : lp_d m (lz_M T m) β ≠ 0) (hβ : ∀ k, k < m → lz_L m c (β k)) : ((lp_d m (lz_M T m) β).natAbs : Int) < cz_M := by
  have h := lz_size_d hB hm ha hac hc hd hβ
  exact lz_lt (n := 1) (by rw [Nat.one_mul]; exact h) (by decide)
set_option maxHeartbeats 2000000 in
theorem wq_c8_exchange {i0 j0 : Int} (h : cJ L K r z A) (hdg : ∀ a, cw_O L K 0 a → w (r a 0) = (a, 0)) (h1 : cg_1 L K r w ρ) (h8 : cg_8 L K r w ρ) (hV : cw_O L K 8 V) (hVS : S (ρ V)) (hB : lz_B T m a c) (hm : m ≤ 29) (ha : a ≤ 19) (hac : a ≤ c) (hc : c ≤ a + 10) (hc9 : c ≤ 29) (e4 : z V 4 = (m : Int)) (e5 : z V 5 = (c : Int)) (hT : cz_T K r z A V m c T β γ) (hi : 0 ≤ i0 ∧ i0 < (m : Int)) (hj : 0 ≤ j0 ∧ j0 < (c : Int)) (hp : 0 < cb_v r z A (cw_g K (r V 0) (i0.toNat * 30 + j0.toNat)))
    (hr1 : ∀ i : Nat, i < m → 0 ≤ A (r V 1) i ∧ A (r V 1) i < 60) (hr2 : ∀ j : Nat, j < c → 0 ≤ A (r V 2) j ∧ A (r V 2) j < 60)
    {Q : (Nat → Nat → Int) → (Nat → Nat → Int) → Prop} (hQ : ∀ z' A' : Nat → Nat → Int, cJ L K r z' A' → cF ρ S z A z' A' → z' V = z V → (∃ β' γ', cz_T K r z' A' V m c T β' γ') → (∀ i : Nat, i < m → 0 ≤ A' (r V 1) i ∧ A' (r V 1) i < 60) → (∀ j : Nat, j < c → 0 ≤ A' (r V 2) j ∧ A' (r V 2) j < 60) → Q z' A') : wp_c8_exchange L K z r A V i0 j0 Q := by
  obtain ⟨C1, C2, C3, C4, C5, C6⟩ := hT
  obtain ⟨i, hii⟩ : ∃ i : Nat, i0 = (i : Int) := ⟨i0.toNat, by omega⟩
  obtain ⟨j, hjj⟩ : ∃ j : Nat, j0 = (j : Int) := ⟨j0.toNat, by omega⟩
  subst hii
  subst hjj
  have im : i < m := by omega
  have jc : j < c := by omega
  rw [show ((i : Int)).toNat = i by omega, show ((j : Int)).toNat = j by omega] at hp
  have h8' := h8 V hV
  obtain ⟨⟨c1, c2, c3, c4⟩, ⟨u1, u2, u3, u4⟩, ⟨v1, v2, v3, v4⟩, -, ⟨k1, k2, k3, k4⟩, ⟨l1, l2, l3, l4⟩, ⟨m1, m2, m3, m4⟩, ⟨d1, d2, d3⟩⟩ := h8'
  obtain ⟨o1, o2, o3, o4⟩ := h1.2 _ d1
  have gr : r V 0 ≠ V := Ne.symm (cw_OG_ne hV c1)
  have grd : r V 0 ≠ r V 12 := fun e => cw_OG_ne d1 c1 e.symm
  have VD : V ≠ r V 12 := cw_O_ne hV d1 (by decide)
  have VB : ∀ b, cw_O L K 0 b → V ≠ b := fun b hb => cw_O_ne hV hb (by decide)
  have ks : r V 9 ≠ r (r V 12) 0 := cg_ne k3 o3 (by simp)
  have kl : r V 9 ≠ r V 10 := cg_ne k3 l3 (by simp)
  have km : r V 9 ≠ r V 11 := cg_ne k3 m3 (by simp)
  have ol : r (r V 12) 0 ≠ r V 10 := cg_ne o3 l3 (by simp)
  have om : r (r V 12) 0 ≠ r V 11 := cg_ne o3 m3 (by simp)
  have du := cg_dig hdg u3 hV (by decide)
  have dv := cg_dig hdg v3 hV (by decide)
  have uv : r V 1 ≠ r V 2 := cg_ne u3 v3 (by simp)
  -- cells: their places
  have cell : ∀ p q, p ≤ m → q ≤ c → cw_O L K 0 (cw_g K (r V 0) (p * 30 + q)) ∧ cw_n K (r (cw_g K (r V 0) (p * 30 + q)) 0) = 32 ∧ w (cw_g K (r V 0) (p * 30 + q)) = (r V 0, p * 30 + q) ∧ ρ (cw_g K (r V 0) (p * 30 + q)) = ρ V := fun p q hp hq => c4 (p * 30 + q) (by omega)
  have cne : ∀ p q, p ≤ m → q ≤ c → cw_g K (r V 0) (p * 30 + q) ≠ r V 10 ∧ cw_g K (r V 0) (p * 30 + q) ≠ r V 11 ∧ cw_g K (r V 0) (p * 30 + q) ≠ r (r V 12) 0 ∧ cw_g K (r V 0) (p * 30 + q) ≠ r V 9 := by
    intro p q hp hq
    obtain ⟨x1, x2, x3, x4⟩ := cell p q hp hq
    exact ⟨cg_ne x3 l3 (fun e => gr e.1), cg_ne x3 m3 (fun e => gr e.1), cg_ne x3 o3 (fun e => grd e.1), cg_ne x3 k3 (fun e => gr e.1)⟩
  have cinj : ∀ p q p' q', p ≤ m → q ≤ c → p' ≤ m → q' ≤ c → ¬ (p = p' ∧ q = q') → cw_g K (r V 0) (p * 30 + q) ≠ cw_g K (r V 0) (p' * 30 + q') := by
    intro p q p' q' hp hq hp' hq' hne
    refine cg_ne (cell p q hp hq).2.2.1 (cell p' q' hp' hq').2.2.1 (fun e => hne ?_)
    have := e.2
    omega
  -- the numbers of the next table
  obtain ⟨M, hM⟩ : ∃ M, M = lz_M T m := ⟨_, rfl⟩
  obtain ⟨d, hd⟩ : ∃ d, d = lp_d m M β := ⟨_, rfl⟩
  obtain ⟨β', hβ'⟩ : ∃ β', β' = lp_U β i (γ j) := ⟨_, rfl⟩
  obtain ⟨T0, hT0⟩ : ∃ T0 : Nat → Nat → Int, T0 = fun p q => lp_R m M β p (cz_x T m c γ q) := ⟨_, rfl⟩
  obtain ⟨T1, hT1⟩ : ∃ T1 : Nat → Nat → Int, T1 = fun p q => lp_R m M β' p (cz_x T m c γ q) := ⟨_, rfl⟩
  rw [← hM] at C1 C2 C3 C4
  rw [← hd] at C2 C3
  have C4' : ∀ p q, p ≤ m → q ≤ c → cb_v r z A (cw_g K (r V 0) (p * 30 + q)) = T0 p q := fun p q hp hq => by rw [hT0]; exact C4 p q hp hq
  have xj : cz_x T m c γ j = M (γ j) := by unfold cz_x; rw [if_pos jc, hM]
  have P0 : 0 < T0 i j := by rw [← C4' i j (by omega) (by omega)]; exact hp
  have dP : lp_d m M β' = T0 i j := by
    rw [hβ', lp_d_step im, hT0]
    show _ = lp_R m M β i (cz_x T m c γ j)
    rw [xj]
  have step : ∀ p q, p ≤ m → p ≠ i → T0 p q * T0 i j - T0 p j * T0 i q = d * T1 p q := by
    intro p q hp hpi
    have := lp_R_step (c := γ j) C1 im (show p < m + 1 by omega) hpi (cz_x T m c γ q)
    rw [← hβ'] at this
    rw [hd, hT1, hT0]
    show lp_R m M β p (cz_x T m c γ q) * lp_R m M β i (cz_x T m c γ j) - lp_R m M β p (cz_x T m c γ j) * lp_R m M β i (cz_x T m c γ q) = lp_d m M β * lp_R m M β' p (cz_x T m c γ q)
    rw [this, xj, Int.mul_comm (lp_R m M β p (cz_x T m c γ q))]
  have bL' : ∀ k, k < m → lz_L m c (β' k) := by
    intro k hk
    rw [hβ']
    by_cases e : k = i
    · rw [e, lp_U_same]; exact C6 j jc
    · rw [lp_U_other e]; exact C5 k hk
  have dne : lp_d m (lz_M T m) β ≠ 0 := by rw [← hM, ← hd]; omega
  have dne' : lp_d m (lz_M T m) β' ≠ 0 := by rw [← hM, dP]; omega
  have s0 : ∀ p q, ((T0 p q).natAbs : Int) < cz_M := fun p q => by rw [hT0, hM]; exact lz_cell hB hm ha hac hc dne C5 C6 p q
  have s1 : ∀ p q, ((T1 p q).natAbs : Int) < cz_M := fun p q => by rw [hT1, hM]; exact lz_cell hB hm ha hac hc dne' bL' C6 p q
  -- in the end
  have fin : ∀ z1 A1 : Nat → Nat → Int, cJ L K r z1 A1 → cF ρ S z A z1 A1 → z1 V = z V → (∀ x, (∀ b, cw_O L K 0 b → r b 0 ≠ x) → A1 x = A x) → cb_v r z1 A1 (r V 9) = d → (∀ p q, p ≤ m → q ≤ c → cb_v r z1 A1 (cw_g K (r V 0) (p * 30 + q)) = if p = i then T0 p q else if q = j then - T0 p j else T1 p q) → ∀ x : Int, (m : Int) < x → (cw_O L K 0 (r V 10) ∧ wp_c0_copy L K z1 r A1 (r V 10) (r V 9) (fun z_5 A_6 => cw_O L K 0 (r V 9) ∧ wp_c0_copy L K z_5 r A_6 (r V 9) (cw_g K (r V 0) (i * 30 + j)) (fun z_9 A_10 => cw_O L K 0 (cw_g K (r V 0) (i * 30 + j)) ∧ wp_c0_copy L K z_9 r A_10 (cw_g K (r V 0) (i * 30 + j)) (r V 10) (fun z_13 A_14 => cw_A L K 0 (r V 1) ∧ ((0 : Int) ≤ (i : Int) ∧ (i : Int) < (cw_n K (r V 1) : Int)) ∧ ∀ x4_17 : Int, x4_17 = A_14 (r V 1) (((i : Int)).toNat) → cw_A L K 0 (r V 2) ∧ ((0 : Int) ≤ (j : Int) ∧ (j : Int) < (cw_n K (r V 2) : Int)) ∧ ((0 : Int) ≤ (i : Int) ∧ (i : Int) < (cw_n K (r V 1) : Int)) ∧ ∀ A_19 : Nat → Nat → Int, A_19 = hz_s A_14 (r V 1) (i : Int) (A_14 (r V 2) (((j : Int)).toNat)) → ((0 : Int) ≤ (j : Int) ∧ (j : Int) < (cw_n K (r V 2) : Int)) ∧ ∀ A_20 : Nat → Nat → Int, A_20 = hz_s A_19 (r V 2) (j : Int) x4_17 → Q z_13 A_20)))) := by
    intro z1 A1 j1 F1 o1' a1 sc ce x _
    obtain ⟨x1, x2, x3, x4⟩ := cell i j (by omega) (by omega)
    obtain ⟨y1, y2, y3, y4⟩ := cne i j (by omega) (by omega)
    have ls := (j1.1.2 _ k1).1
    have lx := (j1.1.2 _ x1).1
    refine ⟨l1, wq_c0_copy j1.1 l1 k1 (by omega) (fun z2 A2 q2 hY2 _ w2 _ _ => ⟨k1, ?_⟩)⟩
    have j2 := cJ_Y j1 l1 q2 hY2
    refine wq_c0_copy q2 k1 x1 (by rw [hY2.1 _ y1, k2]; omega) (fun z3 A3 q3 hY3 _ w3 _ _ => ⟨x1, ?_⟩)
    have j3 := cJ_Y j2 k1 q3 hY3
    have len : z3 (r V 10) 1 ≤ 32 := by
      have u : cb_u r z3 A3 (r V 10) < 4294967296 ^ 32 := by
        rw [(cb_k_other q2.1 k1 l1 (Ne.symm kl) hY3).2.1, ← cb_abs, w2, sc]
        have : ((d.natAbs : Nat) : Int) < cz_M := by rw [hd, hM]; exact lz_scale hB hm ha hac hc dne C5
        unfold cz_M at this
        exact Int.lt_of_lt_of_le this (cb_pow_le (by decide))
      exact cb_len (n := 32) (q3.2 _ l1) q3.1 l1 u
    refine wq_c0_copy q3 x1 l1 (by rw [x2]; exact len) (fun z4 A4 q4 hY4 _ w4 _ _ => ⟨u1, by omega, fun y5 ey5 => ⟨v1, by omega, by omega, fun A5 e5' => ⟨by omega, fun A6 e6' => ?_⟩⟩⟩)
    have j4 := cJ_Y j3 x1 q4 hY4
    have aa : ∀ x, (∀ b, cw_O L K 0 b → r b 0 ≠ x) → A4 x = A x := fun x hx => by rw [hY4.2 x (Ne.symm (hx _ x1)), hY3.2 x (Ne.symm (hx _ k1)), hY2.2 x (Ne.symm (hx _ l1))]; exact a1 x hx
    have a4u := aa _ du
    have a4v := aa _ dv
    rw [show ((i : Int)).toNat = i by omega, a4u] at ey5
    rw [show ((j : Int)).toNat = j by omega, a4v] at e5'
    have ri := hr1 i im
    have rj := hr2 j jc
    have j5 : cJ L K r z4 A5 := by rw [e5']; exact cJ_st j4 u1 du ⟨fun _ => by omega, by omega, by omega, by omega⟩
    have j6 : cJ L K r z4 A6 := by rw [e6']; exact cJ_st j5 v1 dv ⟨fun _ => by omega, by omega, by omega, by omega⟩
    have F4 : cF ρ S z A z4 A4 := cF_trans (cF_trans (cF_trans F1 (cF_Y h1 l1 (by rw [l4]; exact hVS) hY2)) (cF_Y h1 k1 (by rw [k4]; exact hVS) hY3)) (cF_Y h1 x1 (by rw [x4]; exact hVS) hY4)
    have F6 : cF ρ S z A z4 A6 := cF_trans F4 (by rw [e6', e5']; exact cF_trans (cF_st (by rw [u4]; exact hVS)) (cF_st (by rw [v4]; exact hVS)))
    have V6 : ∀ b, cw_O L K 0 b → cb_v r z4 A6 b = cb_v r z4 A4 b := fun b hb => by rw [e6', cb_v_st dv b hb, e5', cb_v_st du b hb]
    refine hQ z4 A6 j6 F6 (by rw [hY4.1 V (VB _ x1), hY3.1 V (VB _ k1), hY2.1 V (VB _ l1)]; exact o1') ⟨β', lp_U γ j (β i), ?_⟩ (fun p hp => ?_) (fun q hq => ?_)
    · have vs : cb_v r z4 A6 (r V 9) = T0 i j := by
        rw [V6 _ k1, (cb_k_other q3.1 x1 k1 (Ne.symm y4) hY4).2.2, w3, (cb_k_other j1.1.1 l1 x1 y1 hY2).2.2, ce i j (by omega) (by omega), if_pos rfl]
      have vp : cb_v r z4 A6 (cw_g K (r V 0) (i * 30 + j)) = d := by
        rw [V6 _ x1, w4, (cb_k_other q2.1 k1 l1 (Ne.symm kl) hY3).2.2, w2, sc]
      have vo : ∀ p q, p ≤ m → q ≤ c → ¬ (p = i ∧ q = j) → cb_v r z4 A6 (cw_g K (r V 0) (p * 30 + q)) = if p = i then T0 p q else if q = j then - T0 p j else T1 p q := by
        intro p q hp hq hne
        obtain ⟨g1, g2, g3, g4⟩ := cell p q hp hq
        obtain ⟨n1, n2, n3, n4⟩ := cne p q hp hq
        rw [V6 _ g1, (cb_k_other q3.1 x1 g1 (cinj p q i j hp hq (by omega) (by omega) hne) hY4).2.2, (cb_k_other q2.1 k1 g1 n4 hY3).2.2, (cb_k_other j1.1.1 l1 g1 n1 hY2).2.2]
        exact ce p q hp hq
      have xo : ∀ q, q ≠ j → cz_x T m c (lp_U γ j (β i)) q = cz_x T m c γ q := by
        intro q hq
        unfold cz_x
        rw [lp_U_other hq]
      have xn : cz_x T m c (lp_U γ j (β i)) j = M (β i) := by
        unfold cz_x
        rw [if_pos jc, lp_U_same, hM]
      unfold cz_T
      rw [← hM]
      refine ⟨?_, by rw [dP]; exact P0, by rw [dP]; exact vs, fun p q hpp hq => ?_, bL', fun q hq => ?_⟩
      · rw [hβ', lp_b_step im]
        exact lp_C_step C1 (by omega) (M (γ j)) (show lp_d m M β ≠ 0 by rw [← hd]; omega)
      · by_cases hpi : p = i
        · subst hpi
          by_cases hqj : q = j
          · subst hqj
            rw [vp, xn, hβ', lp_R_step_r im, lp_R_self im, hd]
          · rw [vo p q hpp hq (fun e => hqj e.2), if_pos rfl, xo q hqj, hβ', lp_R_step_r im, hT0]
        · by_cases hqj : q = j
          · subst hqj
            rw [vo p q hpp hq (fun e => hpi e.1), if_neg hpi, if_pos rfl, xn]
            have st := lp_R_step (c := γ q) C1 im (show p < m + 1 by omega) hpi (M (β i))
            rw [← hβ', lp_R_basic im (by omega) hpi, lp_R_self im, Int.mul_zero, ← hd] at st
            have e9 : T0 p q = lp_R m M β p (M (γ q)) := by rw [hT0]; show lp_R m M β p (cz_x T m c γ q) = _; rw [xj]
            rw [← e9] at st
            have : d * lp_R m M β' p (M (β i)) = d * (- T0 p q) := by rw [st, Int.mul_neg, Int.mul_comm (T0 p q)]; omega
            exact (Int.eq_of_mul_eq_mul_left (by omega) this).symm
          · rw [vo p q hpp hq (fun e => hpi e.1), if_neg hpi, if_neg hqj, xo q hqj, hT1]
      · by_cases hqj : q = j
        · rw [hqj, lp_U_same]; exact C5 i im
        · rw [lp_U_other hqj]; exact C6 q hq
    · rw [e6', hz_s_a uv, e5']
      by_cases hpi : p = i
      · have := hz_s_same (A := A4) (r V 1) (i : Int) (A (r V 2) j)
        rw [show ((i : Int)).toNat = i by omega] at this
        rw [hpi, this]; exact rj
      · rw [hz_s_i (by omega), a4u]; exact hr1 p hp
    · rw [e6']
      by_cases hqj : q = j
      · have := hz_s_same (A := A5) (r V 2) (j : Int) y5
        rw [show ((j : Int)).toNat = j by omega] at this
        rw [hqj, this, ey5]; exact ri
      · rw [hz_s_i (by omega), e5', hz_s_a (Ne.symm uv), a4v]; exact hr2 q hq
  -- signs of the column
  have neg : ∀ z1 A1 : Nat → Nat → Int, cJ L K r z1 A1 → cF ρ S z A z1 A1 → z1 V = z V → (∀ x, (∀ b, cw_O L K 0 b → r b 0 ≠ x) → A1 x = A x) → cb_v r z1 A1 (r V 9) = d → (∀ p q, p ≤ m → q ≤ c → cb_v r z1 A1 (cw_g K (r V 0) (p * 30 + q)) = if p = i ∨ q = j then T0 p q else T1 p q) → wp_c8_exchange_96 L K z1 r A1 V i j (cw_g K (r V 0) (i * 30 + j)) 0 Q := by
    intro z1 A1 j1 F1 o1' a1 sc ce PP hPP
    have key : ∀ (k n : Nat) (z2 : Nat → Nat → Int) (x : Int), n + k = m + 1 → x = (n : Int) → cJ L K r z2 A1 → cF ρ S z A z2 A1 → z2 V = z V → cb_v r z2 A1 (r V 9) = d → (∀ p q, p ≤ m → q ≤ c → cb_v r z2 A1 (cw_g K (r V 0) (p * 30 + q)) = if p = i then T0 p q else if q = j then (if p < n then - T0 p j else T0 p j) else T1 p q) → PP z2 x := by
      intro k
      induction k with
      | zero =>
        intro n z2 x hk ex j2 F2 o2 s2 v2
        refine hPP z2 x ⟨hV, by omega, by rw [o2, e4]; omega, fun _ => ?_, fun c9 => by rw [o2, e4] at c9; omega⟩
        refine fin z2 A1 j2 F2 o2 a1 s2 (fun p q hp hq => ?_) x (by omega)
        rw [v2 p q hp hq]
        by_cases hpi : p = i
        · rw [if_pos hpi, if_pos hpi]
        · rw [if_neg hpi, if_neg hpi, if_pos (show p < n by omega)]
      | succ k ih =>
        intro n z2 x hk ex j2 F2 o2 s2 v2
        subst ex
        refine hPP z2 n ⟨hV, by omega, by rw [o2, e4]; omega, fun c9 => by rw [o2, e4] at c9; omega, fun _ => ⟨by omega, by omega, fun c9 x1 e1 => ?_, fun c9 => ?_⟩⟩
        · have hni : n = i := by omega
          refine ih (n + 1) z2 x1 (by omega) (by omega) j2 F2 o2 s2 (fun p q hp hq => ?_)
          rw [v2 p q hp hq]
          by_cases hpi : p = i
          · rw [if_pos hpi, if_pos hpi]
          · rw [if_neg hpi, if_neg hpi]
            by_cases hqj : q = j
            · rw [if_pos hqj, if_pos hqj]
              by_cases hpn : p < n
              · rw [if_pos hpn, if_pos (by omega)]
              · rw [if_neg hpn, if_neg (by omega)]
            · rw [if_neg hqj, if_neg hqj]
        · have hni : n ≠ i := by omega
          refine wq_c8_cell h8 hV (by omega) (by omega) ?_
          rw [show ((n : Int)).toNat * 30 + ((j : Int)).toNat = n * 30 + j by omega]
          obtain ⟨x1, x2, x3, x4⟩ := cell n j (by omega) (by omega)
          refine ⟨x1, wq_c0_negate j2.1 x1 (fun z3 q3 hY3 w3 _ x5 e5' => ?_)⟩
          refine ih (n + 1) z3 x5 (by omega) (by omega) (cJ_Y j2 x1 q3 hY3) (cF_trans F2 (cF_Y h1 x1 (by rw [x4]; exact hVS) hY3)) (by rw [hY3.1 V (VB _ x1)]; exact o2) (by rw [(cb_k_other j2.1.1 x1 k1 (Ne.symm (cne n j (by omega) (by omega)).2.2.2) hY3).2.2]; exact s2) (fun p q hp hq => ?_)
          by_cases hpq : p = n ∧ q = j
          · rw [hpq.1, hpq.2, w3, v2 n j (by omega) (by omega), if_neg hni, if_pos rfl, if_neg (by omega), if_neg hni, if_pos rfl, if_pos (by omega)]
          · rw [(cb_k_other j2.1.1 x1 (cell p q hp hq).1 (cinj p q n j hp hq (by omega) (by omega) hpq) hY3).2.2, v2 p q hp hq]
            by_cases hpi : p = i
            · rw [if_pos hpi, if_pos hpi]
            · rw [if_neg hpi, if_neg hpi]
              by_cases hqj : q = j
              · rw [if_pos hqj, if_pos hqj]
                by_cases hpn : p < n
                · rw [if_pos hpn, if_pos (by omega)]
                · rw [if_neg hpn, if_neg (by omega)]
              · rw [if_neg hqj, if_neg hqj]
    refine key (m + 1) 0 z1 0 (by omega) rfl j1 F1 o1' sc (fun p q hp hq => ?_)
    rw [ce p q hp hq]
    by_cases hpi : p = i
    · rw [if_pos (Or.inl hpi), if_pos hpi]
    · rw [if_neg hpi]
      by_cases hqj : q = j
      · rw [if_pos (Or.inr hqj), if_pos hqj, if_neg (by omega), hqj]
      · rw [if_neg (fun e => e.elim hpi hqj), if_neg hqj]
  -- the rest of the cells
  have uz : ¬ cb_u r z A (r V 9) = 0 := fun e => by have := cb_abs r z A (r V 9); omega
  have sz : z (r V 9) 2 = 0 := by
    rcases (h.1.2 _ k1).2.1 with q9 | q9
    · exact q9
    · exfalso
      have e9 : cb_v r z A (r V 9) = if z (r V 9) 2 = 1 then - cb_u r z A (r V 9) else cb_u r z A (r V 9) := rfl
      rw [if_pos q9] at e9
      have := cb_u_nn r z A (r V 9)
      omega
  have ls := (h.1.2 _ k1).1
  refine ⟨hV, d1, wq_c1_prepare h.1 d1 o1 k1 ks (by omega) uz sz (fun z1 A1 q1 hz1 _ hA1 _ hP1 => ?_)⟩
  have j1 : cJ L K r z1 A1 := ⟨q1, cr_A_Y (z' := z1) h.2 o1 q1.1 hA1⟩
  have oS : S (ρ (r (r V 12) 0)) := by rw [o4, d3]; exact hVS
  have F1 : cF ρ S z A z1 A1 := fun x hx => ⟨hz1 x (fun e => hx (by rw [e]; exact oS)) (fun e => hx (by rw [e, d3]; exact hVS)), hA1 x (fun e => hx (by rw [e, h1.1 _ o1]; exact oS))⟩
  have V1 : ∀ b, cw_O L K 0 b → b ≠ r (r V 12) 0 → cb_v r z1 A1 b = cb_v r z A b := fun b hb hne => by
    have e1 := hz1 b hne (cw_O_ne hb d1 (by decide))
    have e2 := hA1 (r b 0) (cb_ne h.1.1 o1 hb hne)
    unfold cb_v cb_u
    rw [e1, e2]
  have eu : cb_u r z A (r V 9) = d := by rw [← cb_abs, C3]; omega
  rw [eu] at hP1
  refine wq_c8_cell h8 hV (by omega) (by omega) ?_
  rw [show ((i : Int)).toNat * 30 + ((j : Int)).toNat = i * 30 + j by omega]
  intro PP hPP
  have key : ∀ (k n : Nat) (z2 A2 : Nat → Nat → Int) (x : Int), n + k = m + 1 → x = (n : Int) → cJ L K r z2 A2 → cF ρ S z A z2 A2 → z2 V = z V → (∀ x, (∀ b, cw_O L K 0 b → r b 0 ≠ x) → A2 x = A x) → cb_v r z2 A2 (r V 9) = d → cd_P r z2 A2 (r V 12) d → (∀ p q, p ≤ m → q ≤ c → cb_v r z2 A2 (cw_g K (r V 0) (p * 30 + q)) = if p = i ∨ q = j then T0 p q else if p < n then T1 p q else T0 p q) → PP z2 A2 x := by
    intro k
    induction k with
    | zero =>
      intro n z2 A2 x hk ex j2 F2 o2 a2 s2 P2 v2
      refine hPP z2 A2 x ⟨hV, by omega, by rw [o2, e4]; omega, fun _ => neg z2 A2 j2 F2 o2 a2 s2 (fun p q hp hq => ?_), fun c9 => by rw [o2, e4] at c9; omega⟩
      rw [v2 p q hp hq, if_pos (show p < n by omega)]
    | succ k ih =>
      intro n z2 A2 x hk ex j2 F2 o2 a2 s2 P2 v2
      subst ex
      refine hPP z2 A2 n ⟨hV, by omega, by rw [o2, e4]; omega, fun c9 => by rw [o2, e4] at c9; omega, fun _ => ?_⟩
      intro P3 hP3
      have nxt : ∀ (z3 A3 : Nat → Nat → Int), cJ L K r z3 A3 → cF ρ S z A z3 A3 → z3 V = z V → (∀ x, (∀ b, cw_O L K 0 b → r b 0 ≠ x) → A3 x = A x) → cb_v r z3 A3 (r V 9) = d → cd_P r z3 A3 (r V 12) d → (∀ p q, p ≤ m → q ≤ c → cb_v r z3 A3 (cw_g K (r V 0) (p * 30 + q)) = if p = i ∨ q = j then T0 p q else if p < n + 1 then T1 p q else T0 p q) → wp_c8_exchange_87 L K z3 r A3 V i j (cw_g K (r V 0) (i * 30 + j)) n PP Q := by
        intro z3 A3 j3 F3 o3 a3 s3 P3' v3 x1 e1
        exact ih (n + 1) z3 A3 x1 (by omega) (by omega) j3 F3 o3 a3 s3 P3' v3
      have inner : ∀ (k2 t : Nat) (z3 A3 : Nat → Nat → Int) (y : Int), t + k2 = c + 1 → y = (t : Int) → cJ L K r z3 A3 → cF ρ S z A z3 A3 → z3 V = z V → (∀ x, (∀ b, cw_O L K 0 b → r b 0 ≠ x) → A3 x = A x) → cb_v r z3 A3 (r V 9) = d → cd_P r z3 A3 (r V 12) d → (∀ p q, p ≤ m → q ≤ c → cb_v r z3 A3 (cw_g K (r V 0) (p * 30 + q)) = if p = i ∨ q = j then T0 p q else if p < n ∨ (p = n ∧ q < t) then T1 p q else T0 p q) → P3 z3 A3 y := by
        intro k2
        induction k2 with
        | zero =>
          intro t z3 A3 y ht ey j3 F3 o3 a3 s3 P3' v3
          refine hP3 z3 A3 y ⟨hV, by omega, by rw [o3, e5]; omega, fun _ => nxt z3 A3 j3 F3 o3 a3 s3 P3' (fun p q hp hq => ?_), fun c9 => by rw [o3, e5] at c9; omega⟩
          rw [v3 p q hp hq]
          by_cases e9 : p = i ∨ q = j
          · rw [if_pos e9, if_pos e9]
          · rw [if_neg e9, if_neg e9]
            by_cases hpn : p < n + 1
            · rw [if_pos hpn, if_pos (by omega)]
            · rw [if_neg hpn, if_neg (by omega)]
        | succ k2 ih2 =>
          intro t z3 A3 y ht ey j3 F3 o3 a3 s3 P3' v3
          subst ey
          have same : (t = j ∨ n = i) → ∀ p q, p ≤ m → q ≤ c → cb_v r z3 A3 (cw_g K (r V 0) (p * 30 + q)) = if p = i ∨ q = j then T0 p q else if p < n ∨ (p = n ∧ q < t + 1) then T1 p q else T0 p q := by
            intro htn p q hp hq
            rw [v3 p q hp hq]
            by_cases e9 : p = i ∨ q = j
            · rw [if_pos e9, if_pos e9]
            · rw [if_neg e9, if_neg e9]
              by_cases hpn : p < n ∨ (p = n ∧ q < t)
              · rw [if_pos hpn, if_pos (by omega)]
              · rw [if_neg hpn, if_neg (by omega)]
          refine hP3 z3 A3 t ⟨hV, by omega, by rw [o3, e5]; omega, fun c9 => by rw [o3, e5] at c9; omega, fun _ => ⟨by omega, by omega, fun c9 => ?_, fun c9 => ⟨by omega, by omega, fun c10 x1 e1 => ?_, fun c10 => ?_⟩⟩⟩
          · have hni : n = i := by omega
            refine nxt z3 A3 j3 F3 o3 a3 s3 P3' (fun p q hp hq => ?_)
            rw [v3 p q hp hq]
            by_cases e9 : p = i ∨ q = j
            · rw [if_pos e9, if_pos e9]
            · rw [if_neg e9, if_neg e9]
              by_cases hpn : p < n
              · rw [if_pos (Or.inl hpn), if_pos (by omega)]
              · rw [if_neg (by omega), if_neg (by omega)]
          · exact ih2 (t + 1) z3 A3 x1 (by omega) (by omega) j3 F3 o3 a3 s3 P3' (same (Or.inl (by omega)))
          · have hni : n ≠ i := by omega
            have htj : t ≠ j := by omega
            refine wq_c8_cell h8 hV (by omega) (by omega) (wq_c8_cell h8 hV (by omega) (by omega) (wq_c8_cell h8 hV (by omega) (by omega) ?_))
            rw [show ((n : Int)).toNat = n by omega, show ((t : Int)).toNat = t by omega, show ((i : Int)).toNat = i by omega, show ((j : Int)).toNat = j by omega]
            have vx : cb_v r z3 A3 (cw_g K (r V 0) (n * 30 + t)) = T0 n t := by rw [v3 n t (by omega) (by omega), if_neg (by omega), if_neg (by omega)]
            have vp : cb_v r z3 A3 (cw_g K (r V 0) (i * 30 + j)) = T0 i j := by rw [v3 i j (by omega) (by omega), if_pos (Or.inl rfl)]
            have vy : cb_v r z3 A3 (cw_g K (r V 0) (n * 30 + j)) = T0 n j := by rw [v3 n j (by omega) (by omega), if_pos (Or.inr rfl)]
            have vq : cb_v r z3 A3 (cw_g K (r V 0) (i * 30 + t)) = T0 i t := by rw [v3 i t (by omega) (by omega), if_pos (Or.inl rfl)]
            obtain ⟨x1, x2, x3, x4⟩ := cell n t (by omega) (by omega)
            obtain ⟨p1, p2, p3, p4⟩ := cell i j (by omega) (by omega)
            obtain ⟨y1, y2, y3, y4⟩ := cell n j (by omega) (by omega)
            obtain ⟨q1', q2', q3', q4'⟩ := cell i t (by omega) (by omega)
            have nn : ∀ kk, (kk = cw_g K (r V 0) (n * 30 + t) ∨ kk = cw_g K (r V 0) (i * 30 + j) ∨ kk = cw_g K (r V 0) (n * 30 + j) ∨ kk = cw_g K (r V 0) (i * 30 + t)) → kk ≠ r V 10 ∧ kk ≠ r V 11 ∧ kk ≠ r (r V 12) 0 := by
              intro kk hk
              rcases hk with rfl | rfl | rfl | rfl
              · have := cne n t (by omega) (by omega); exact ⟨this.1, this.2.1, this.2.2.1⟩
              · have := cne i j (by omega) (by omega); exact ⟨this.1, this.2.1, this.2.2.1⟩
              · have := cne n j (by omega) (by omega); exact ⟨this.1, this.2.1, this.2.2.1⟩
              · have := cne i t (by omega) (by omega); exact ⟨this.1, this.2.1, this.2.2.1⟩
            refine wq_c8_renew (d := d) (t := T1 n t) j3 h1 h8 hV hVS x1 p1 y1 q1' x2 p2 y2 q2' x4 nn P3' C2 (by rw [vx, vp, vy, vq]; exact step n t (by omega) hni) (s1 n t) (by rw [← cb_abs, vx]; exact s0 n t) (by rw [← cb_abs, vp]; exact s0 i j) (by rw [← cb_abs, vy]; exact s0 n j) (by rw [← cb_abs, vq]; exact s0 i t) (fun z4 A4 j4 F4 v4 o4' a4 w4 x5 e5' => ?_)
            have cx := cne n t (by omega) (by omega)
            refine ih2 (t + 1) z4 A4 x5 (by omega) (by omega) j4 (cF_trans F3 F4) (by rw [o4' V (VB _ x1) (VB _ l1) (VB _ m1)]; exact o3) (fun x hx => by rw [a4 x hx]; exact a3 x hx) (by rw [(v4 _ k1 (Ne.symm cx.2.2.2) kl km).1]; exact s3) ?_ (fun p q hp hq => ?_)
            · unfold cd_P at P3' ⊢
              rw [o4' _ (cw_O_ne d1 x1 (by decide)) (cw_O_ne d1 l1 (by decide)) (cw_O_ne d1 m1 (by decide)), o4' _ (Ne.symm cx.2.2.1) ol om, (v4 _ o1 (Ne.symm cx.2.2.1) ol om).2]
              exact P3'
            · by_cases hpq : p = n ∧ q = t
              · rw [hpq.1, hpq.2, w4, if_neg (by omega), if_pos (by omega)]
              · have cp := cne p q hp hq
                rw [(v4 _ (cell p q hp hq).1 (cinj p q n t hp hq (by omega) (by omega) hpq) cp.1 cp.2.1).1, v3 p q hp hq]
                by_cases e9 : p = i ∨ q = j
                · rw [if_pos e9, if_pos e9]
                · rw [if_neg e9, if_neg e9]
                  by_cases hpn : p < n ∨ (p = n ∧ q < t)
                  · rw [if_pos hpn, if_pos (by omega)]
                  · rw [if_neg hpn, if_neg (by omega)]
      exact inner (c + 1) 0 z2 A2 0 (by omega) rfl j2 F2 o2 a2 s2 P2 (fun p q hp hq => by
        rw [v2 p q hp hq]
        by_cases e9 : p = i ∨ q = j
        · rw [if_pos e9, if_pos e9]
        · rw [if_neg e9, if_neg e9]
          by_cases hpn : p < n
          · rw [if_pos hpn, if_pos (Or.inl hpn)]
          · rw [if_neg hpn, if_neg (by omega)])
  refine key (m + 1) 0 z1 A1 0 (by omega) rfl j1 F1 (hz1 V (fun e => VB _ o1 e) VD) (fun x hx => hA1 x (Ne.symm (hx _ o1))) (by rw [V1 _ k1 ks]; exact C3) hP1 (fun p q hp hq => ?_)
  rw [V1 _ (cell p q hp hq).1 (cne p q hp hq).2.2.1, C4' p q hp hq]
  by_cases e9 : p = i ∨ q = j
  · rw [if_pos e9]
  · rw [if_neg e9, if_neg (by omega)]
end CZ

-- 18.b30
section CZ
variable {L : List Nat} {K : Nat → cw_K} {r : Nat → Nat → Nat} {z A : Nat → Nat → Int} {w : Nat → Nat × Nat} {ρ : Nat → Nat} {S : Nat → Prop} {V g m a b c : Nat} {T : Nat → Nat → Int} {β γ : Nat → Nat}
/-- what the solver holds between two exchanges -/
noncomputable def cz_I (L : List Nat) (K : Nat → cw_K) (r : Nat → Nat → Nat) (z A : Nat → Nat → Int) (V m a b c : Nat) : Prop :=
  (m ≤ 29 ∧ a ≤ 19 ∧ a ≤ c ∧ c ≤ a + 10 ∧ c ≤ 29 ∧ b ≤ 19) ∧ (z V 4 = (m : Int) ∧ z V 5 = (c : Int) ∧ z V 6 = (a : Int) + 1 ∧ z V 7 = (b : Int) + 1 ∧ (z V 8).natAbs ≤ 5000000000000000) ∧ (∃ T β γ, lz_B T m a c ∧ cz_T K r z A V m c T β γ) ∧ (∀ i : Nat, i < m → 0 ≤ A (r V 1) i ∧ A (r V 1) i < 60) ∧ (∀ j : Nat, j < c → 0 ≤ A (r V 2) j ∧ A (r V 2) j < 60)
/-- the first table -/
theorem cz_T_start (hB : cz_B K r z A V m a c) (hs : cb_v r z A (r V 9) = 1) (hm : m ≤ 29) (hc : c ≤ 29) : ∃ T β γ, lz_B T m a c ∧ cz_T K r z A V m c T β γ := by
  obtain ⟨T, hT⟩ : ∃ T : Nat → Nat → Int, T = fun i j => cb_v r z A (cw_g K (r V 0) (i * 30 + j)) := ⟨_, rfl⟩
  have eb : lp_b m (lz_M T m) (fun k => 100 + k) = lp_e := by
    funext k
    unfold lp_b
    split
    · next e => rw [e]
    · funext t
      unfold lz_M
      rw [if_neg (show ¬ (100 + k < 100) by omega), Nat.add_sub_cancel_left]
  have ed : lp_d m (lz_M T m) (fun k => 100 + k) = 1 := by unfold lp_d; rw [eb, lp_E_units]
  have er : ∀ (i : Nat) (x : Nat → Int), i ≤ m → lp_R m (lz_M T m) (fun k => 100 + k) i x = x i := fun i x hi => by
    unfold lp_R
    rw [eb, lp_E_unit (m + 1) i (by omega)]
  refine ⟨T, fun k => 100 + k, fun j => j, fun i j hi hj => by rw [hT]; exact hB i j hi hj, by rw [eb]; exact lp_C_start _, by rw [ed]; decide, by rw [ed]; exact hs, fun i j hi hj => ?_, fun k hk => Or.inr ⟨by show 100 ≤ 100 + k; omega, by show 100 + k < 100 + m; omega⟩, fun j hj => Or.inl hj⟩
  rw [er i _ hi]
  unfold cz_x
  by_cases hjc : j < c
  · rw [if_pos hjc]
    unfold lz_M
    rw [if_pos (show j < 100 by omega), if_pos hi, hT]
  · rw [if_neg hjc, show j = c by omega]
    unfold lz_M
    rw [if_pos (by omega), if_pos hi, hT]
theorem wq_c8_setUp (h : cJ L K r z A) (hdg : ∀ a, cw_O L K 0 a → w (r a 0) = (a, 0)) (h1 : cg_1 L K r w ρ) (h2 : cg_2 L K r w ρ) (h7 : cg_7 L K r w ρ) (h8 : cg_8 L K r w ρ) (hV : cw_O L K 8 V) (hVS : S (ρ V)) (hF : cg_F L K r z A g) (hg : ¬ S (ρ g)) {Q : (Nat → Nat → Int) → (Nat → Nat → Int) → Prop} (hQ : ∀ z' A' : Nat → Nat → Int, cJ L K r z' A' → cF ρ S z A z' A' → (∃ m a b c, cz_I L K r z' A' V m a b c) → Q z' A') : wp_c8_setUp L K z r A V g Q := by
  have hg0 := hF.1
  obtain ⟨-, ⟨s1, s2, s3⟩, -⟩ := h2 g hg0
  obtain ⟨p1, p2, p3⟩ := s3 0 (by omega)
  obtain ⟨q1, q2, q3⟩ := s3 1 (by omega)
  have S0 := hF.2.1
  have S1 := hF.2.2.1
  have f0 := S0.2.1
  have f0' := S0.2.2.1
  have f1 := S1.2.1
  have f1' := S1.2.2.1
  have nV0 : cw_g K (r g 1) 0 ≠ V := cw_O_ne p1 hV (by decide)
  have nV1 : cw_g K (r g 1) 1 ≠ V := cw_O_ne q1 hV (by decide)
  have VB : ∀ b, cw_O L K 0 b → b ≠ V := fun b hb => cw_O_ne hb hV (by decide)
  obtain ⟨a, ha⟩ : ∃ a : Nat, z (cw_g K (r g 1) 0) 5 = (a : Int) + 1 := ⟨(z (cw_g K (r g 1) 0) 5 - 1).toNat, by omega⟩
  obtain ⟨b, hb⟩ : ∃ b : Nat, z (cw_g K (r g 1) 1) 5 = (b : Int) + 1 := ⟨(z (cw_g K (r g 1) 1) 5 - 1).toNat, by omega⟩
  obtain ⟨m, hm⟩ : ∃ m : Nat, (m : Int) = (b : Int) + z (cw_g K (r g 1) 0) 0 := ⟨((b : Int) + z (cw_g K (r g 1) 0) 0).toNat, by omega⟩
  obtain ⟨c, hc⟩ : ∃ c : Nat, (c : Int) = (a : Int) + z (cw_g K (r g 1) 1) 0 := ⟨((a : Int) + z (cw_g K (r g 1) 1) 0).toNat, by omega⟩
  obtain ⟨⟨c1, c2, c3, c4⟩, ⟨u1, u2, u3, u4⟩, ⟨v1, v2, v3, v4⟩, ⟨t1, t2, t3, t4⟩, -⟩ := h8 V hV
  refine ⟨hg0, s1, by omega, p1, hV, fun z1 e1 => ⟨by omega, q1, fun z2 e2 => ⟨by omega, fun z3 e3 => ⟨by omega, fun z4 e4 => ?_⟩⟩⟩⟩
  have e1 : z1 = cw_s z V 6 (z (cw_g K (r g 1) 0) 5) := e1
  have e2 : z2 = cw_s z1 V 7 (z1 (cw_g K (r g 1) 1) 5) := e2
  have e3 : z3 = cw_s z2 V 4 (z2 V 7 - 1 + z2 (cw_g K (r g 1) 0) 0) := e3
  have e4 : z4 = cw_s z3 V 5 (z3 V 6 - 1 + z3 (cw_g K (r g 1) 1) 0) := e4
  have o1 : ∀ x, x ≠ V → z1 x = z x := fun x hx => by rw [e1, cw_s_a hx]
  have o2 : ∀ x, x ≠ V → z2 x = z x := fun x hx => by rw [e2, cw_s_a hx]; exact o1 x hx
  have o3 : ∀ x, x ≠ V → z3 x = z x := fun x hx => by rw [e3, cw_s_a hx]; exact o2 x hx
  have o4 : ∀ x, x ≠ V → z4 x = z x := fun x hx => by rw [e4, cw_s_a hx]; exact o3 x hx
  have x6 : z4 V 6 = (a : Int) + 1 := by rw [e4, cw_s_k (by decide), e3, cw_s_k (by decide), e2, cw_s_k (by decide), e1, cw_s_same]; exact ha
  have x7 : z4 V 7 = (b : Int) + 1 := by rw [e4, cw_s_k (by decide), e3, cw_s_k (by decide), e2, cw_s_same, o1 _ nV1]; exact hb
  have y7 : z2 V 7 = (b : Int) + 1 := by rw [e2, cw_s_same, o1 _ nV1]; exact hb
  have y6 : z3 V 6 = (a : Int) + 1 := by rw [e3, cw_s_k (by decide), e2, cw_s_k (by decide), e1, cw_s_same]; exact ha
  have x4 : z4 V 4 = (m : Int) := by rw [e4, cw_s_k (by decide), e3, cw_s_same, y7, o2 _ nV0]; omega
  have x5 : z4 V 5 = (c : Int) := by rw [e4, cw_s_same, y6, o3 _ nV1]; omega
  have j4 : cJ L K r z4 A := ⟨cb_all_z h.1 (fun q hq => o4 q (VB q hq)), h.2⟩
  have F4 : cF ρ S z A z4 A := cF_z (fun x hx => o4 x (fun e => hx (by rw [e]; exact hVS)))
  have G4 := cg_F_keep h2 h7 hF F4 hg
  refine wq_c2_sumOfSizes h2 G4 j4.2 (fun u hu0 hu1 y ey => ?_)
  refine wq_c8_clear (R := m) (a := a) (c := c) j4 hdg h1 h8 hV hVS x4 x5 (by omega) (by omega) (fun z5 A5 j5 F5 o5 B5 s5 r5 q5 => ⟨by omega, ?_⟩)
  have G5 := cg_F_keep h2 h7 G4 F5 hg
  have n1 : ¬ S (ρ (cw_g K (r g 1) 1)) := by rw [q3]; exact hg
  have n0 : ¬ S (ρ (cw_g K (r g 1) 0)) := by rw [p3]; exact hg
  show wp_c8_setFloors L K z5 r A5 V (cw_g K (r g 1) 1) y _
  refine wq_c8_setFloors j5 h7 h8 hV hVS G5.2.2.1 n1 (by omega) (fun A6 j6 F6 o6 f6 => ?_)
  have nf : ∀ q, cw_O L K 0 q → r q 0 ≠ r V 3 := cg_dig hdg t3 hV (by decide)
  have G6 := cg_F_keep h2 h7 G5 F6 hg
  have V6 : ∀ q, cw_O L K 0 q → cb_v r z5 A6 q = cb_v r z5 A5 q := fun q hq => by unfold cb_v cb_u; rw [o6 _ (nf q hq)]
  have z5s : ∀ i, i < 2 → z5 (cw_g K (r g 1) i) = z (cw_g K (r g 1) i) := fun i hi => by
    have hn : ¬ S (ρ (cw_g K (r g 1) i)) := by rw [(s3 i hi).2.2]; exact hg
    rw [(F5 _ hn).1]
    exact o4 _ (cw_O_ne (s3 i hi).1 hV (by decide))
  have U6 : cU L K r ρ S V m a c z5 A6 z5 A6 := ⟨j6, cF_refl _ _ _ _, fun _ _ => rfl, cz_B_keep h8 hV (by omega) (by omega) B5 V6, by rw [V6 _ (h8 V hV).2.2.2.2.1.1]; exact s5, fun _ _ => rfl⟩
  have w4 : z5 V 4 = (m : Int) := by rw [o5]; exact x4
  have w5 : z5 V 5 = (c : Int) := by rw [o5]; exact x5
  have w6 : z5 V 6 = (a : Int) + 1 := by rw [o5]; exact x6
  have w7 : z5 V 7 = (b : Int) + 1 := by rw [o5]; exact x7
  have l0 : z5 (cw_g K (r g 1) 0) 5 = (a : Int) + 1 := by rw [z5s 0 (by omega)]; exact ha
  have l1 : z5 (cw_g K (r g 1) 1) 5 = (b : Int) + 1 := by rw [z5s 1 (by omega)]; exact hb
  have ec : (c : Int) = (a : Int) + z5 (cw_g K (r g 1) 1) 0 := by rw [z5s 1 (by omega)]; exact hc
  have em : (m : Int) = (b : Int) + z5 (cw_g K (r g 1) 0) 0 := by rw [z5s 0 (by omega)]; exact hm
  refine wq_c8_setUpLinesOfB (a := a) (b := b) (c := c) (R := m) hdg h1 h2 h7 h8 hV hVS G6 hg (by omega) (by omega) w5 w6 l0 l1 ec (by omega) f6 U6 (fun z7 A7 U7 => ⟨by omega, ?_⟩)
  show wp_c8_setUpSetsOfA L K z7 r A7 V (cw_g K (r g 1) 0) _
  refine wq_c8_setUpSetsOfA (b := b) hdg h1 h7 h8 hV hVS G6.2.1 (by omega) (by omega) (by omega) w5 w7 l0 em U7 (fun z8 A8 U8 => ?_)
  refine wq_c8_setUpGoal (u := y) hdg h1 h2 h7 h8 hV hVS G6 hg (by omega) (by omega) (by omega) w4 w6 l0 ec f6 U8 (fun z9 A9 j9 F9 o9 B9 s9 k9 t9 => ?_)
  refine hQ z9 A9 j9 (cF_trans (cF_trans (cF_trans F4 F5) F6) F9) ⟨m, a, b, c, ⟨by omega, by omega, by omega, by omega, by omega, by omega⟩, ⟨by rw [o9 4 (by decide)]; exact w4, by rw [o9 5 (by decide)]; exact w5, by rw [o9 6 (by decide)]; exact w6, by rw [o9 7 (by decide)]; exact w7, k9⟩, cz_T_start B9 s9 (by omega) (by omega), fun i hi => ?_, fun j hj => ?_⟩
  · rw [t9 _ (cg_dig hdg u3 hV (by decide)), o6 _ (cg_ne u3 t3 (by simp))]; exact r5 i hi
  · rw [t9 _ (cg_dig hdg v3 hV (by decide)), o6 _ (cg_ne v3 t3 (by simp))]; exact q5 j hj
theorem wq_c8_entering (h : cJ L K r z A) (h8 : cg_8 L K r w ρ) (hV : cw_O L K 8 V) (hI : cz_I L K r z A V m a b c) {Q : Int → Prop} (hQ : ∀ x : Int, (x = -1 ∨ (0 ≤ x ∧ x < (c : Int))) → Q x) : wp_c8_entering L K z r A V Q := by
  obtain ⟨⟨b1, b2, b3, b4, b5, b6⟩, ⟨e4, e5, e6, e7, e8⟩, -, -, -⟩ := hI
  obtain ⟨⟨c1, c2, c3, c4⟩, -, ⟨v1, v2, v3, v4⟩, -⟩ := h8 V hV
  intro PP hPP
  have key : ∀ (k n : Nat) (x y : Int), n + k = c → y = (n : Int) → (x = -1 ∨ (0 ≤ x ∧ x < (n : Int))) → PP x y := by
    intro k
    induction k with
    | zero =>
      intro n x y hk ey hx
      exact hPP x y ⟨hV, by omega, by rw [e5]; omega, fun _ => hQ x (by omega), fun c9 => by rw [e5] at c9; omega⟩
    | succ k ih =>
      intro n x y hk ey hx
      subst ey
      have nx : ∀ x1 : Int, (x1 = x ∨ x1 = (n : Int)) → wp_c8_entering_49 L K z r A V x1 n PP Q := fun x1 h1 y1 e1 => ih (n + 1) x1 y1 (by omega) (by omega) (by omega)
      refine hPP x n ⟨hV, by omega, by rw [e5]; omega, fun c9 => by rw [e5] at c9; omega, fun _ => ?_⟩
      rw [e4]
      refine wq_c8_cell h8 hV (by omega) (by omega) ⟨(c4 _ (by omega)).1, ?_, fun _ => nx x (Or.inl rfl), fun _ => ⟨by omega, fun _ => nx n (Or.inr rfl), fun c9 => ⟨v1, by omega, by omega, (h.2 _).1 v1 _, (h.2 _).1 v1 _, fun _ => nx x (Or.inl rfl), fun _ => nx n (Or.inr rfl)⟩⟩⟩
      have := (h.1.2 _ (c4 (((m : Int)).toNat * 30 + ((n : Int)).toNat) (by omega)).1).2.1
      omega
  exact key c 0 (-1) 0 (by omega) rfl (Or.inl rfl)
/-- a state in which only left and right differ -/
theorem cz_I_keep (h8 : cg_8 L K r w ρ) (hV : cw_O L K 8 V) {z' A' : Nat → Nat → Int} (hI : cz_I L K r z A V m a b c) (ez : z' V = z V) (ev : ∀ q, cw_O L K 0 q → q ≠ r V 10 → q ≠ r V 11 → cb_v r z' A' q = cb_v r z A q) (ea : ∀ x, (∀ q, cw_O L K 0 q → r q 0 ≠ x) → A' x = A x) (hdg : ∀ a, cw_O L K 0 a → w (r a 0) = (a, 0)) : cz_I L K r z' A' V m a b c := by
  obtain ⟨hb, he, ⟨T, β, γ, hB, C1, C2, C3, C4, C5, C6⟩, r1, r2⟩ := hI
  obtain ⟨⟨c1, c2, c3, c4⟩, ⟨u1, u2, u3, u4⟩, ⟨v1, v2, v3, v4⟩, -, ⟨k1, k2, k3, k4⟩, ⟨l1, l2, l3, l4⟩, ⟨m1, m2, m3, m4⟩, -⟩ := h8 V hV
  have gr : r V 0 ≠ V := Ne.symm (cw_OG_ne hV c1)
  refine ⟨hb, by rw [ez]; exact he, ⟨T, β, γ, hB, C1, C2, by rw [ev _ k1 (cg_ne k3 l3 (by simp)) (cg_ne k3 m3 (by simp))]; exact C3, fun i j hi hj => ?_, C5, C6⟩, by rw [ea _ (cg_dig hdg u3 hV (by decide))]; exact r1, by rw [ea _ (cg_dig hdg v3 hV (by decide))]; exact r2⟩
  obtain ⟨g1, g2, g3, g4⟩ := c4 (i * 30 + j) (by omega)
  rw [ev _ g1 (cg_ne g3 l3 (fun e => gr e.1)) (cg_ne g3 m3 (fun e => gr e.1))]
  exact C4 i j hi hj
theorem wq_c8_leavesBefore {x y j : Int} (h : cJ L K r z A) (hdg : ∀ a, cw_O L K 0 a → w (r a 0) = (a, 0)) (h1 : cg_1 L K r w ρ) (h8 : cg_8 L K r w ρ) (hV : cw_O L K 8 V) (hVS : S (ρ V)) (hI : cz_I L K r z A V m a b c) (hx : 0 ≤ x ∧ x < (m : Int)) (hy : 0 ≤ y ∧ y < (m : Int)) (hj : 0 ≤ j ∧ j < (c : Int)) {Q : Int → (Nat → Nat → Int) → (Nat → Nat → Int) → Prop} (hQ : ∀ (v : Int) (z' A' : Nat → Nat → Int), (v = 0 ∨ v = 1) → cJ L K r z' A' → cF ρ S z A z' A' → cz_I L K r z' A' V m a b c → (∀ q, cw_O L K 0 q → q ≠ r V 10 → q ≠ r V 11 → cb_v r z' A' q = cb_v r z A q) → Q v z' A') : wp_c8_leavesBefore L K z r A V x y j Q := by
  have hI0 := hI
  obtain ⟨⟨b1, b2, b3, b4, b5, b6⟩, ⟨e4, e5, e6, e7, e8⟩, -, -, -⟩ := hI
  obtain ⟨⟨c1, c2, c3, c4⟩, ⟨u1, u2, u3, u4⟩, -, -, -, ⟨l1, l2, l3, l4⟩, ⟨m1, m2, m3, m4⟩, -⟩ := h8 V hV
  have gr : r V 0 ≠ V := Ne.symm (cw_OG_ne hV c1)
  have VB : ∀ b, cw_O L K 0 b → V ≠ b := fun b hb => cw_O_ne hV hb (by decide)
  have lm : r V 10 ≠ r V 11 := cg_ne l3 m3 (by simp)
  have cl : ∀ q, q < 900 → cw_g K (r V 0) q ≠ r V 10 ∧ cw_g K (r V 0) q ≠ r V 11 := fun q hq => ⟨cg_ne (c4 q hq).2.2.1 l3 (fun e => gr e.1), cg_ne (c4 q hq).2.2.1 m3 (fun e => gr e.1)⟩
  have ln : ∀ (z1 A1 : Nat → Nat → Int) q, cb_all L K r z1 A1 → q < 900 → z1 (cw_g K (r V 0) q) 1 ≤ 32 := fun z1 A1 q hall hq => by
    have := (hall.2 _ (c4 q hq).1).1
    have := (c4 q hq).2.1
    omega
  refine ⟨hV, ?_⟩
  rw [e5]
  refine wq_c8_cell h8 hV (by omega) (by omega) (wq_c8_cell h8 hV (by omega) (by omega) ⟨l1, ?_⟩)
  refine wq_c0_putProduct h.1 l1 (c4 _ (by omega)).1 (c4 _ (by omega)).1 (cl _ (by omega)).1 (cl _ (by omega)).1 (by rw [l2]; have := ln z A (x.toNat * 30 + ((c : Int)).toNat) h.1 (by omega); have := ln z A (y.toNat * 30 + j.toNat) h.1 (by omega); omega) (fun z1 A1 k1 hY1 _ _ => ?_)
  have ev1 : z1 V = z V := hY1.1 V (VB _ l1)
  rw [ev1, e5]
  refine wq_c8_cell h8 hV (by omega) (by omega) (wq_c8_cell h8 hV (by omega) (by omega) ⟨m1, ?_⟩)
  refine wq_c0_putProduct k1 m1 (c4 _ (by omega)).1 (c4 _ (by omega)).1 (cl _ (by omega)).2 (cl _ (by omega)).2 (by rw [m2]; have := ln z1 A1 (y.toNat * 30 + ((c : Int)).toNat) k1 (by omega); have := ln z1 A1 (x.toNat * 30 + j.toNat) k1 (by omega); omega) (fun z2 A2 k2 hY2 _ _ => ?_)
  have j2 := cJ_Y (cJ_Y h l1 k1 hY1) m1 k2 hY2
  have F2 : cF ρ S z A z2 A2 := cF_trans (cF_Y h1 l1 (by rw [l4]; exact hVS) hY1) (cF_Y h1 m1 (by rw [m4]; exact hVS) hY2)
  have vv : ∀ q, cw_O L K 0 q → q ≠ r V 10 → q ≠ r V 11 → cb_v r z2 A2 q = cb_v r z A q := fun q hq ql qm => by rw [(cb_k_other k1.1 m1 hq qm hY2).2.2, (cb_k_other h.1.1 l1 hq ql hY1).2.2]
  have I2 : cz_I L K r z2 A2 V m a b c := cz_I_keep h8 hV hI0 (by rw [hY2.1 V (VB _ m1)]; exact ev1) vv (fun x hx => by rw [hY2.2 x (Ne.symm (hx _ m1)), hY1.2 x (Ne.symm (hx _ l1))]) hdg
  have fin : ∀ v : Int, (v = 0 ∨ v = 1) → wp_c8_leavesBefore_87 L K z2 r A2 v Q := fun v hv => ⟨hv, hQ v z2 A2 hv j2 F2 I2 vv⟩
  refine wq_c0_order k2 l1 m1 (fun o o1 _ _ _ => ⟨by omega, fun _ => fin 1 (by omega), fun _ => ⟨by omega, fun _ => fin 0 (by omega), fun _ => ⟨u1, by omega, by omega, (j2.2 _).1 u1 _, (j2.2 _).1 u1 _, fun _ => fin 0 (by omega), fun _ => fin 1 (by omega)⟩⟩⟩)
theorem wq_c8_leaving {j : Int} (h : cJ L K r z A) (hdg : ∀ a, cw_O L K 0 a → w (r a 0) = (a, 0)) (h1 : cg_1 L K r w ρ) (h8 : cg_8 L K r w ρ) (hV : cw_O L K 8 V) (hVS : S (ρ V)) (hI : cz_I L K r z A V m a b c) (hj : 0 ≤ j ∧ j < (c : Int)) {Q : Int → (Nat → Nat → Int) → (Nat → Nat → Int) → Prop} (hQ : ∀ (x : Int) (z' A' : Nat → Nat → Int), cJ L K r z' A' → cF ρ S z A z' A' → cz_I L K r z' A' V m a b c → (x = -1 ∨ (0 ≤ x ∧ x < (m : Int) ∧ 0 < cb_v r z' A' (cw_g K (r V 0) (x.toNat * 30 + j.toNat)))) → Q x z' A') : wp_c8_leaving L K z r A V j Q := by
  have hb := hI.1
  obtain ⟨⟨c1, c2, c3, c4⟩, -, -, -, -, ⟨l1, l2, l3, l4⟩, ⟨m1, m2, m3, m4⟩, -⟩ := h8 V hV
  have gr : r V 0 ≠ V := Ne.symm (cw_OG_ne hV c1)
  have cl : ∀ q, q < 900 → cw_g K (r V 0) q ≠ r V 10 ∧ cw_g K (r V 0) q ≠ r V 11 := fun q hq => ⟨cg_ne (c4 q hq).2.2.1 l3 (fun e => gr e.1), cg_ne (c4 q hq).2.2.1 m3 (fun e => gr e.1)⟩
  intro PP hPP
  have key : ∀ (k n : Nat) (z1 A1 : Nat → Nat → Int) (x y : Int), n + k = m → y = (n : Int) → cJ L K r z1 A1 → cF ρ S z A z1 A1 → cz_I L K r z1 A1 V m a b c → (x = -1 ∨ (0 ≤ x ∧ x < (n : Int) ∧ 0 < cb_v r z1 A1 (cw_g K (r V 0) (x.toNat * 30 + j.toNat)))) → PP z1 A1 x y := by
    intro k
    induction k with
    | zero =>
      intro n z1 A1 x y hk ey j1 F1 I1 hx
      have e4 := I1.2.1.1
      exact hPP z1 A1 x y ⟨hV, by omega, by rw [e4]; omega, fun _ => hQ x z1 A1 j1 F1 I1 (by rw [show m = n by omega]; exact hx), fun c9 => by rw [e4] at c9; omega⟩
    | succ k ih =>
      intro n z1 A1 x y hk ey j1 F1 I1 hx
      subst ey
      have e4 := I1.2.1.1
      have up : ∀ (z2 A2 : Nat → Nat → Int), (x = -1 ∨ (0 ≤ x ∧ x < (n : Int) ∧ 0 < cb_v r z2 A2 (cw_g K (r V 0) (x.toNat * 30 + j.toNat)))) → (x = -1 ∨ (0 ≤ x ∧ x < ((n + 1 : Nat) : Int) ∧ 0 < cb_v r z2 A2 (cw_g K (r V 0) (x.toNat * 30 + j.toNat)))) := by
        intro z2 A2 hh
        rcases hh with q | ⟨q1, q2, q3⟩
        · exact Or.inl q
        · exact Or.inr ⟨q1, by omega, q3⟩
      refine hPP z1 A1 x n ⟨hV, by omega, by rw [e4]; omega, fun c9 => by rw [e4] at c9; omega, fun _ => wq_c8_cell h8 hV (by omega) (by omega) ⟨(c4 _ (by omega)).1, wq_c0_sign j1.1 (c4 _ (by omega)).1 (fun v _ v1 _ v4 => ⟨by omega, fun _ x1 e1 => ih (n + 1) z1 A1 x x1 (by omega) (by omega) j1 F1 I1 (up z1 A1 hx), fun cv => ⟨by rcases hx with q | ⟨q1, q2, q3⟩ <;> omega, fun _ x1 e1 => ?_, fun cx => ?_⟩⟩)⟩⟩
      · exact ih (n + 1) z1 A1 n x1 (by omega) (by omega) j1 F1 I1 (Or.inr ⟨by omega, by omega, v1.mp (by omega)⟩)
      · rcases hx with q | ⟨q1, q2, q3⟩
        · exact absurd q cx
        refine wq_c8_leavesBefore j1 hdg h1 h8 hV hVS I1 (by omega) (by omega) hj (fun o z2 A2 ho j2 F2 I2 vv => ⟨by omega, fun _ x1 e1 => ?_, fun _ x1 e1 => ?_⟩)
        · have cc := cl (x.toNat * 30 + j.toNat) (by omega)
          exact ih (n + 1) z2 A2 x x1 (by omega) (by omega) j2 (cF_trans F1 F2) I2 (Or.inr ⟨q1, by omega, by rw [vv _ (c4 _ (by omega)).1 cc.1 cc.2]; exact q3⟩)
        · have cc := cl (((n : Int)).toNat * 30 + j.toNat) (by omega)
          exact ih (n + 1) z2 A2 n x1 (by omega) (by omega) j2 (cF_trans F1 F2) I2 (Or.inr ⟨by omega, by omega, by rw [vv _ (c4 _ (by omega)).1 cc.1 cc.2]; exact v1.mp (by omega)⟩)
  exact key m 0 z A (-1) 0 (by omega) rfl h (cF_refl _ _ _ _) hI (Or.inl rfl)
theorem wq_c8_work (h : cJ L K r z A) (hdg : ∀ a, cw_O L K 0 a → w (r a 0) = (a, 0)) (h1 : cg_1 L K r w ρ) (h2 : cg_2 L K r w ρ) (h7 : cg_7 L K r w ρ) (h8 : cg_8 L K r w ρ) (hV : cw_O L K 8 V) (hVS : S (ρ V)) (hF : cg_F L K r z A g) (hg : ¬ S (ρ g)) {Q : (Nat → Nat → Int) → (Nat → Nat → Int) → Prop} (hQ : ∀ z' A' : Nat → Nat → Int, cJ L K r z' A' → cF ρ S z A z' A' → (∃ m a b c, cz_I L K r z' A' V m a b c) → Q z' A') : wp_c8_work L K z r A V g Q := by
  refine ⟨hV, wq_c8_setUp h hdg h1 h2 h7 h8 hV hVS hF hg (fun z1 A1 j1 F1 I1 => ?_)⟩
  obtain ⟨m, a, b, c, I1⟩ := I1
  intro PP hPP
  have key : ∀ (k n : Nat) (z2 A2 : Nat → Nat → Int) (x : Int), n + k = 1000000 → x = (n : Int) → cJ L K r z2 A2 → cF ρ S z A z2 A2 → cz_I L K r z2 A2 V m a b c → PP z2 A2 x := by
    intro k
    induction k with
    | zero =>
      intro n z2 A2 x hk ex j2 F2 I2
      exact hPP z2 A2 x ⟨by omega, fun _ => hQ z2 A2 j2 F2 ⟨m, a, b, c, I2⟩, fun c9 => by omega⟩
    | succ k ih =>
      intro n z2 A2 x hk ex j2 F2 I2
      have hb := I2.1
      refine hPP z2 A2 x ⟨by omega, fun c9 => by omega, fun _ => ⟨hV, wq_c8_entering j2 h8 hV I2 (fun y hy => ⟨by omega, fun cy => ?_, fun _ => ⟨by decide, fun c9 => absurd rfl c9, fun _ => hQ z2 A2 j2 F2 ⟨m, a, b, c, I2⟩⟩⟩)⟩⟩
      refine wq_c8_leaving j2 hdg h1 h8 hV hVS I2 (by omega) (fun v z3 A3 j3 F3 I3 hv => ⟨by rcases hv with q | ⟨q1, q2, q3⟩ <;> omega, fun cv => ⟨hV, ?_⟩, fun _ => hQ z3 A3 j3 (cF_trans F2 F3) ⟨m, a, b, c, I3⟩⟩)
      rcases hv with q | ⟨q1, q2, q3⟩
      · exact absurd q cv
      obtain ⟨B3, E3, ⟨T, β, γ, hB, hT⟩, R1, R2⟩ := I3
      refine wq_c8_exchange j3 hdg h1 h8 hV hVS hB (by omega) (by omega) (by omega) (by omega) (by omega) E3.1 E3.2.1 hT ⟨q1, q2⟩ (by omega) q3 R1 R2 (fun z4 A4 j4 F4 o4 hT4 r1 r2 x1 e1 => ?_)
      obtain ⟨β', γ', hT4⟩ := hT4
      exact ih (n + 1) z4 A4 x1 (by omega) (by omega) j4 (cF_trans (cF_trans F2 F3) F4) ⟨B3, by rw [o4]; exact E3, ⟨T, β', γ', hB, hT4⟩, r1, r2⟩
  exact key 1000000 0 z1 A1 0 (by omega) rfl j1 F1 I1
end CZ

-- 18.b31
section CZ
variable {L : List Nat} {K : Nat → cw_K} {r : Nat → Nat → Nat} {z A : Nat → Nat → Int} {w : Nat → Nat × Nat} {ρ : Nat → Nat} {S : Nat → Prop} {V g m a b c : Nat}
/-- every cell and the scale have their room -/
theorem cz_I_cell (hI : cz_I L K r z A V m a b c) {i j : Nat} (hi : i ≤ m) (hj : j ≤ c) : cb_u r z A (cw_g K (r V 0) (i * 30 + j)) < cz_M := by
  obtain ⟨⟨b1, b2, b3, b4, b5, b6⟩, -, ⟨T, β, γ, hB, C1, C2, C3, C4, C5, C6⟩, -, -⟩ := hI
  rw [← cb_abs, C4 i j hi hj]
  exact lz_cell hB b1 b2 b3 b4 (by omega) C5 C6 i j
theorem cz_I_scale (hI : cz_I L K r z A V m a b c) : cb_u r z A (r V 9) < cz_M := by
  obtain ⟨⟨b1, b2, b3, b4, b5, b6⟩, -, ⟨T, β, γ, hB, C1, C2, C3, C4, C5, C6⟩, -, -⟩ := hI
  rw [← cb_abs, C3]
  exact lz_scale hB b1 b2 b3 b4 (by omega) C5
theorem cz_M_top : cz_M * 5000000000000000 + cz_M < 4294967296 ^ 32 := by
  unfold cz_M
  decide +kernel
theorem cz_M_32 : cz_M < 4294967296 ^ 32 := by
  unfold cz_M
  decide +kernel
theorem wq_c8_top (h : cJ L K r z A) (h1 : cg_1 L K r w ρ) (h8 : cg_8 L K r w ρ) (hV : cw_O L K 8 V) (hVS : S (ρ V)) (hI : cz_I L K r z A V m a b c) {Q : Nat → (Nat → Nat → Int) → (Nat → Nat → Int) → Prop} (hQ : ∀ z' A' : Nat → Nat → Int, cJ L K r z' A' → cF ρ S z A z' A' → z' (r V 10) 1 ≤ 32 → Q (r V 10) z' A') : wp_c8_top L K z r A V Q := by
  have hI0 := hI
  obtain ⟨⟨b1, b2, b3, b4, b5, b6⟩, ⟨e4, e5, e6, e7, e8⟩, -, -, -⟩ := hI
  obtain ⟨⟨c1, c2, c3, c4⟩, -, -, -, ⟨k1, k2, k3, k4⟩, ⟨l1, l2, l3, l4⟩, ⟨m1, m2, m3, m4⟩, -⟩ := h8 V hV
  have gr : r V 0 ≠ V := Ne.symm (cw_OG_ne hV c1)
  have VB : ∀ b, cw_O L K 0 b → V ≠ b := fun b hb => cw_O_ne hV hb (by decide)
  have lm : r V 10 ≠ r V 11 := cg_ne l3 m3 (by simp)
  have kl : r V 9 ≠ r V 10 := cg_ne k3 l3 (by simp)
  have km : r V 9 ≠ r V 11 := cg_ne k3 m3 (by simp)
  obtain ⟨g1, g2, g3, g4⟩ := c4 (m * 30 + c) (by omega)
  have gl : cw_g K (r V 0) (m * 30 + c) ≠ r V 10 := cg_ne g3 l3 (fun e => gr e.1)
  have gm : cw_g K (r V 0) (m * 30 + c) ≠ r V 11 := cg_ne g3 m3 (fun e => gr e.1)
  have lS : S (ρ (r V 10)) := by rw [l4]; exact hVS
  have mS : S (ρ (r V 11)) := by rw [m4]; exact hVS
  refine ⟨hV, m1, wq_c0_put h.1 m1 (by omega) (fun z1 A1 q1 hY1 v1 len1 => ⟨l1, ?_⟩)⟩
  have ks := (q1.2 _ k1).1
  refine wq_c0_putProduct q1 l1 k1 m1 kl (Ne.symm lm) (by rw [l2]; omega) (fun z2 A2 q2 hY2 v2 _ => ?_)
  have ev : z2 V = z V := by rw [hY2.1 V (VB _ l1), hY1.1 V (VB _ m1)]
  rw [ev, e4, e5]
  refine wq_c8_cell h8 hV (by omega) (by omega) ?_
  rw [show ((m : Int)).toNat * 30 + ((c : Int)).toNat = m * 30 + c by omega]
  have ug : cb_u r z2 A2 (cw_g K (r V 0) (m * 30 + c)) < cz_M := by
    rw [(cb_k_other q1.1 l1 g1 gl hY2).2.1, (cb_k_other h.1.1 m1 g1 gm hY1).2.1]
    exact cz_I_cell hI0 (Nat.le_refl m) (Nat.le_refl c)
  have ul : cb_u r z2 A2 (r V 10) ≤ cz_M * 5000000000000000 := by
    rw [← cb_abs, v2, Int.natAbs_mul, Int.natCast_mul, cb_abs, cb_abs, (cb_k_other h.1.1 m1 k1 km hY1).2.1]
    have e9 : cb_u r z1 A1 (r V 11) ≤ 5000000000000000 := by rw [← cb_abs, v1]; omega
    exact Int.mul_le_mul (Int.le_of_lt (cz_I_scale hI0)) e9 (cb_u_nn _ _ _ _) (Int.le_of_lt cz_M_pos)
  have fit : cb_u r z2 A2 (r V 10) + cb_u r z2 A2 (cw_g K (r V 0) (m * 30 + c)) < 4294967296 ^ 32 := Int.lt_of_le_of_lt (Int.add_le_add ul (Int.le_of_lt ug)) cz_M_top
  refine wq_c0_plus q2 l1 g1 gl (by rw [l2]; exact Int.lt_of_lt_of_le fit (cb_pow_le (by decide))) (fun z3 A3 q3 hY3 v3 => ?_)
  refine hQ z3 A3 (cJ_Y (cJ_Y (cJ_Y h m1 q1 hY1) l1 q2 hY2) l1 q3 hY3) (cF_trans (cF_trans (cF_Y h1 m1 mS hY1) (cF_Y h1 l1 lS hY2)) (cF_Y h1 l1 lS hY3)) ?_
  have un : cb_u r z3 A3 (r V 10) ≤ cb_u r z2 A2 (r V 10) + cb_u r z2 A2 (cw_g K (r V 0) (m * 30 + c)) := by
    have x1' := cb_abs r z3 A3 (r V 10)
    have x2' := cb_abs r z2 A2 (r V 10)
    have x3' := cb_abs r z2 A2 (cw_g K (r V 0) (m * 30 + c))
    rw [v3] at x1'
    omega
  exact cb_len (n := 32) (q3.2 _ l1) q3.1 l1 (Int.lt_of_le_of_lt un fit)
/-- both mixes get shares of bounded size -/
theorem wq_c8_handOver {p q : Nat} (h : cJ L K r z A) (h1 : cg_1 L K r w ρ) (h3 : cg_3 L K r w ρ) (h8 : cg_8 L K r w ρ) (hV : cw_O L K 8 V) (hI : cz_I L K r z A V m a b c) (hp : cw_O L K 3 p) (hq : cw_O L K 3 q) (hpS : S (ρ p)) (hqS : S (ρ q)) (hpq : p ≠ q) (hVn : ¬ S (ρ V)) {Q : (Nat → Nat → Int) → (Nat → Nat → Int) → Prop} (hQ : ∀ z' A' : Nat → Nat → Int, cJ L K r z' A' → cF ρ S z A z' A' → cm_M K r z' A' (r p 0) cz_M → cm_M K r z' A' (r q 0) cz_M → Q z' A') : wp_c8_handOver L K z r A V p q Q := by
  have hI0 := hI
  obtain ⟨⟨b1, b2, b3, b4, b5, b6⟩, ⟨e4, e5, e6, e7, e8⟩, -, r1, r2⟩ := hI
  obtain ⟨⟨c1, c2, c3, c4⟩, ⟨u1, u2, u3, u4⟩, ⟨v1, v2, v3, v4⟩, -, ⟨k1, k2, k3, k4⟩, -, -, -⟩ := h8 V hV
  obtain ⟨⟨p1, p2, p3, p4⟩, -⟩ := h3 p hp
  obtain ⟨⟨q1, q2, q3, q4⟩, -⟩ := h3 q hq
  have M0 := cz_M_pos
  have pS : ∀ i, i < 20 → S (ρ (cw_g K (r p 0) i)) := fun i hi => by rw [(p4 i hi).2.2.2]; exact hpS
  have qS : ∀ i, i < 20 → S (ρ (cw_g K (r q 0) i)) := fun i hi => by rw [(q4 i hi).2.2.2]; exact hqS
  have arr : r p 0 ≠ r q 0 := cg_ne p3 q3 (fun e => hpq e.1)
  have pq : ∀ i j, i < 20 → j < 20 → cw_g K (r p 0) i ≠ cw_g K (r q 0) j := fun i j hi hj => cg_ne (p4 i hi).2.2.1 (q4 j hj).2.2.1 (fun e => arr e.1)
  -- a state on the way: the solver is as it was
  have cs : ∀ z1 A1 : Nat → Nat → Int, cF ρ S z A z1 A1 → ∀ t, t < 900 → cb_u r z1 A1 (cw_g K (r V 0) t) = cb_u r z A (cw_g K (r V 0) t) ∧ z1 (cw_g K (r V 0) t) = z (cw_g K (r V 0) t) := fun z1 A1 F1 t ht => by
    have := cF_big h1 F1 (c4 t ht).1 (by rw [(c4 t ht).2.2.2]; exact hVn)
    exact ⟨this.1, this.2.2⟩
  have ss : ∀ z1 A1 : Nat → Nat → Int, cF ρ S z A z1 A1 → cb_u r z1 A1 (r V 9) = cb_u r z A (r V 9) ∧ z1 (r V 9) = z (r V 9) := fun z1 A1 F1 => by
    have := cF_big h1 F1 k1 (by rw [k4]; exact hVn)
    exact ⟨this.1, this.2.2⟩
  have zV : ∀ z1 A1 : Nat → Nat → Int, cF ρ S z A z1 A1 → z1 V = z V := fun z1 A1 F1 => (F1 V hVn).1
  have au : ∀ z1 A1 : Nat → Nat → Int, cF ρ S z A z1 A1 → A1 (r V 1) = A (r V 1) := fun z1 A1 F1 => (F1 _ (by rw [u4]; exact hVn)).2
  have av : ∀ z1 A1 : Nat → Nat → Int, cF ρ S z A z1 A1 → A1 (r V 2) = A (r V 2) := fun z1 A1 F1 => (F1 _ (by rw [v4]; exact hVn)).2
  -- one share of p, of q
  have onp : ∀ (z1 A1 z2 A2 : Nat → Nat → Int) (i : Nat), i < 20 → cJ L K r z1 A1 → cb_Y r (cw_g K (r p 0) i) z1 A1 z2 A2 → cb_u r z2 A2 (cw_g K (r p 0) i) ≤ cz_M → (∀ j, j < 20 → j ≠ i → cb_u r z1 A1 (cw_g K (r p 0) j) ≤ cz_M → cb_u r z2 A2 (cw_g K (r p 0) j) ≤ cz_M) ∧ (∀ j, j < 20 → cb_u r z2 A2 (cw_g K (r q 0) j) = cb_u r z1 A1 (cw_g K (r q 0) j)) := by
    intro z1 A1 z2 A2 i hi j1 hY hu
    refine ⟨fun j hj hji hb => ?_, fun j hj => ?_⟩
    · rw [(cb_k_other j1.1.1 (p4 i hi).1 (p4 j hj).1 (cg_ne (p4 j hj).2.2.1 (p4 i hi).2.2.1 (fun e => hji e.2)) hY).2.1]; exact hb
    · exact (cb_k_other j1.1.1 (p4 i hi).1 (q4 j hj).1 (Ne.symm (pq i j hi hj)) hY).2.1
  have onq : ∀ (z1 A1 z2 A2 : Nat → Nat → Int) (i : Nat), i < 20 → cJ L K r z1 A1 → cb_Y r (cw_g K (r q 0) i) z1 A1 z2 A2 → cb_u r z2 A2 (cw_g K (r q 0) i) ≤ cz_M → (∀ j, j < 20 → j ≠ i → cb_u r z1 A1 (cw_g K (r q 0) j) ≤ cz_M → cb_u r z2 A2 (cw_g K (r q 0) j) ≤ cz_M) ∧ (∀ j, j < 20 → cb_u r z2 A2 (cw_g K (r p 0) j) = cb_u r z1 A1 (cw_g K (r p 0) j)) := by
    intro z1 A1 z2 A2 i hi j1 hY hu
    refine ⟨fun j hj hji hb => ?_, fun j hj => ?_⟩
    · rw [(cb_k_other j1.1.1 (q4 i hi).1 (q4 j hj).1 (cg_ne (q4 j hj).2.2.1 (q4 i hi).2.2.1 (fun e => hji e.2)) hY).2.1]; exact hb
    · exact (cb_k_other j1.1.1 (q4 i hi).1 (p4 j hj).1 (pq j i hj hi) hY).2.1
  have three : ∀ z1 A1 : Nat → Nat → Int, cJ L K r z1 A1 → cF ρ S z A z1 A1 → cm_M K r z1 A1 (r p 0) cz_M → cm_M K r z1 A1 (r q 0) cz_M → wp_c8_handOver_118 L K z1 r A1 V q 0 Q := by
    intro z1 A1 j1 F1 mp mq PP hPP
    have key : ∀ (k n : Nat) (z2 A2 : Nat → Nat → Int) (x : Int), n + k = c → x = (n : Int) → cJ L K r z2 A2 → cF ρ S z A z2 A2 → cm_M K r z2 A2 (r p 0) cz_M → cm_M K r z2 A2 (r q 0) cz_M → PP z2 A2 x := by
      intro k
      induction k with
      | zero =>
        intro n z2 A2 x hk ex j2 F2 mp2 mq2
        have ev := zV z2 A2 F2
        exact hPP z2 A2 x ⟨hV, by omega, by rw [ev, e5]; omega, fun _ => hQ z2 A2 j2 F2 mp2 mq2, fun c9 => by rw [ev, e5] at c9; omega⟩
      | succ k ih =>
        intro n z2 A2 x hk ex j2 F2 mp2 mq2
        subst ex
        have ev := zV z2 A2 F2
        have en : ((n : Int)).toNat = n := by omega
        have rn := r2 n (by omega)
        have nx : wp_c8_handOver_176 L K z2 r A2 V q n PP Q := fun x1 e1 => ih (n + 1) z2 A2 x1 (by omega) (by omega) j2 F2 mp2 mq2
        refine hPP z2 A2 n ⟨hV, by omega, by rw [ev, e5]; omega, fun c9 => by rw [ev, e5] at c9; omega, fun _ => ⟨v1, by omega, fun t et => ?_⟩⟩
        rw [av z2 A2 F2, en, ev, e5] at et
        refine ⟨by omega, fun _ => nx, fun c9 => ⟨by omega, by rw [ev, e7]; omega, fun _ => nx, fun c10 => ?_⟩⟩
        rw [ev, e7] at c10
        obtain ⟨g1, g2, g3, g4⟩ := q4 (t + 1).toNat (by omega)
        refine ⟨hq, q1, by omega, ?_⟩
        rw [ev, e4]
        refine wq_c8_cell h8 hV (by omega) (by omega) ?_
        rw [show ((m : Int)).toNat * 30 + ((n : Int)).toNat = m * 30 + n by omega]
        have ce := cs z2 A2 F2 (m * 30 + n) (by omega)
        have hk9 := (h.1.2 _ (c4 (m * 30 + n) (by omega)).1).1
        have hn9 := (c4 (m * 30 + n) (by omega)).2.1
        refine ⟨g1, wq_c0_copy j2.1 g1 (c4 (m * 30 + n) (by omega)).1 (by rw [ce.2, g2]; omega) (fun z3 A3 k3 hY3 u3 _ _ _ x1 e1 => ?_)⟩
        have ub : cb_u r z3 A3 (cw_g K (r q 0) (t + 1).toNat) ≤ cz_M := by rw [u3, ce.1]; exact Int.le_of_lt (cz_I_cell hI0 (Nat.le_refl m) (by omega))
        have on := onq z2 A2 z3 A3 (t + 1).toNat (by omega) j2 hY3 ub
        refine ih (n + 1) z3 A3 x1 (by omega) (by omega) (cJ_Y j2 g1 k3 hY3) (cF_trans F2 (cF_Y h1 g1 (qS _ (by omega)) hY3)) (fun j hj => by rw [on.2 j hj]; exact mp2 j hj) (fun j hj => ?_)
        by_cases hjt : j = (t + 1).toNat
        · rw [hjt]; exact ub
        · exact on.1 j hj hjt (mq2 j hj)
    exact key c 0 z1 A1 0 (by omega) rfl j1 F1 mp mq
  have two : ∀ z1 A1 : Nat → Nat → Int, cJ L K r z1 A1 → cF ρ S z A z1 A1 → cm_M K r z1 A1 (r p 0) cz_M → cm_M K r z1 A1 (r q 0) cz_M → wp_c8_handOver_62 L K z1 r A1 V p q 0 Q := by
    intro z1 A1 j1 F1 mp mq PP hPP
    have key : ∀ (k n : Nat) (z2 A2 : Nat → Nat → Int) (x : Int), n + k = m → x = (n : Int) → cJ L K r z2 A2 → cF ρ S z A z2 A2 → cm_M K r z2 A2 (r p 0) cz_M → cm_M K r z2 A2 (r q 0) cz_M → PP z2 A2 x := by
      intro k
      induction k with
      | zero =>
        intro n z2 A2 x hk ex j2 F2 mp2 mq2
        have ev := zV z2 A2 F2
        exact hPP z2 A2 x ⟨hV, by omega, by rw [ev, e4]; omega, fun _ => three z2 A2 j2 F2 mp2 mq2, fun c9 => by rw [ev, e4] at c9; omega⟩
      | succ k ih =>
        intro n z2 A2 x hk ex j2 F2 mp2 mq2
        subst ex
        have ev := zV z2 A2 F2
        have en : ((n : Int)).toNat = n := by omega
        have rn := r1 n (by omega)
        have ea := au z2 A2 F2
        have nx : wp_c8_handOver_110 L K z2 r A2 V p q n PP Q := fun x1 e1 => ih (n + 1) z2 A2 x1 (by omega) (by omega) j2 F2 mp2 mq2
        refine hPP z2 A2 n ⟨hV, by omega, by rw [ev, e4]; omega, fun c9 => by rw [ev, e4] at c9; omega, fun _ => ⟨u1, by omega, by rw [ea, en]; omega, by rw [ev, e6]; omega, fun _ => nx, fun c10 => ?_⟩⟩
        rw [ev, e6, ea, en] at c10
        rw [ea, en]
        obtain ⟨g1, g2, g3, g4⟩ := p4 (A (r V 1) n + 1).toNat (by omega)
        refine ⟨hp, by omega, p1, by omega, ?_⟩
        rw [ev, e5]
        refine wq_c8_cell h8 hV (by omega) (by omega) ?_
        rw [show ((n : Int)).toNat * 30 + ((c : Int)).toNat = n * 30 + c by omega]
        have ce := cs z2 A2 F2 (n * 30 + c) (by omega)
        have hk9 := (h.1.2 _ (c4 (n * 30 + c) (by omega)).1).1
        have hn9 := (c4 (n * 30 + c) (by omega)).2.1
        refine ⟨g1, wq_c0_copy j2.1 g1 (c4 (n * 30 + c) (by omega)).1 (by rw [ce.2, g2]; omega) (fun z3 A3 k3 hY3 u3 _ _ _ x1 e1 => ?_)⟩
        have ub : cb_u r z3 A3 (cw_g K (r p 0) (A (r V 1) n + 1).toNat) ≤ cz_M := by rw [u3, ce.1]; exact Int.le_of_lt (cz_I_cell hI0 (by omega) (Nat.le_refl c))
        have on := onp z2 A2 z3 A3 (A (r V 1) n + 1).toNat (by omega) j2 hY3 ub
        refine ih (n + 1) z3 A3 x1 (by omega) (by omega) (cJ_Y j2 g1 k3 hY3) (cF_trans F2 (cF_Y h1 g1 (pS _ (by omega)) hY3)) (fun j hj => ?_) (fun j hj => by rw [on.2 j hj]; exact mq2 j hj)
        by_cases hjt : j = (A (r V 1) n + 1).toNat
        · rw [hjt]; exact ub
        · exact on.1 j hj hjt (mp2 j hj)
    exact key m 0 z1 A1 0 (by omega) rfl j1 F1 mp mq
  intro PP hPP
  have key : ∀ (k n : Nat) (z1 A1 : Nat → Nat → Int) (x : Int), n + k = 20 → x = (n : Int) → cJ L K r z1 A1 → cF ρ S z A z1 A1 → (∀ i, i < n → cb_u r z1 A1 (cw_g K (r p 0) i) ≤ cz_M ∧ cb_u r z1 A1 (cw_g K (r q 0) i) ≤ cz_M) → PP z1 A1 x := by
    intro k
    induction k with
    | zero =>
      intro n z1 A1 x hk ex j1 F1 m1
      have sc := ss z1 A1 F1
      have ks := (h.1.2 _ k1).1
      obtain ⟨g1, g2, g3, g4⟩ := p4 0 (by omega)
      obtain ⟨t1, t2, t3, t4⟩ := q4 0 (by omega)
      refine hPP z1 A1 x ⟨by omega, fun _ => ⟨hp, p1, by omega, hV, g1, ?_⟩, fun c9 => by omega⟩
      show wp_c0_copy L K z1 r A1 (cw_g K (r p 0) 0) (r V 9) _
      refine wq_c0_copy j1.1 g1 k1 (by rw [sc.2, g2]; omega) (fun z2 A2 k2' hY2 u2 _ _ _ => ⟨hq, q1, by omega, t1, ?_⟩)
      have ub : cb_u r z2 A2 (cw_g K (r p 0) 0) ≤ cz_M := by rw [u2, sc.1]; exact Int.le_of_lt (cz_I_scale hI0)
      have on := onp z1 A1 z2 A2 0 (by omega) j1 hY2 ub
      have j2 := cJ_Y j1 g1 k2' hY2
      have F2 : cF ρ S z A z2 A2 := cF_trans F1 (cF_Y h1 g1 (pS 0 (by omega)) hY2)
      have sc2 := ss z2 A2 F2
      show wp_c0_copy L K z2 r A2 (cw_g K (r q 0) 0) (r V 9) _
      refine wq_c0_copy k2' t1 k1 (by rw [sc2.2, t2]; omega) (fun z3 A3 k3' hY3 u3 _ _ _ => ?_)
      have ub3 : cb_u r z3 A3 (cw_g K (r q 0) 0) ≤ cz_M := by rw [u3, sc2.1]; exact Int.le_of_lt (cz_I_scale hI0)
      have on3 := onq z2 A2 z3 A3 0 (by omega) j2 hY3 ub3
      refine two z3 A3 (cJ_Y j2 t1 k3' hY3) (cF_trans F2 (cF_Y h1 t1 (qS 0 (by omega)) hY3)) (fun j hj => ?_) (fun j hj => ?_)
      · rw [on3.2 j hj]
        by_cases hj0 : j = 0
        · rw [hj0]; exact ub
        · exact on.1 j hj hj0 (m1 j (by omega)).1
      · by_cases hj0 : j = 0
        · rw [hj0]; exact ub3
        · exact on3.1 j hj hj0 (by rw [on.2 j hj]; exact (m1 j (by omega)).2)
    | succ k ih =>
      intro n z1 A1 x hk ex j1 F1 m1
      subst ex
      have en : ((n : Int)).toNat = n := by omega
      obtain ⟨g1, g2, g3, g4⟩ := p4 n (by omega)
      obtain ⟨t1, t2, t3, t4⟩ := q4 n (by omega)
      refine hPP z1 A1 n ⟨by omega, fun c9 => by omega, fun _ => ⟨hp, p1, by omega, by rw [en]; exact g1, ?_⟩⟩
      rw [en]
      refine wq_c0_put j1.1 g1 (by omega) (fun z2 A2 k2' hY2 w2 _ => ⟨hq, q1, by omega, t1, ?_⟩)
      have ub : cb_u r z2 A2 (cw_g K (r p 0) n) ≤ cz_M := by rw [← cb_abs, w2]; exact Int.le_of_lt cz_M_pos
      have on := onp z1 A1 z2 A2 n (by omega) j1 hY2 ub
      have j2 := cJ_Y j1 g1 k2' hY2
      have F2 : cF ρ S z A z2 A2 := cF_trans F1 (cF_Y h1 g1 (pS n (by omega)) hY2)
      refine wq_c0_put k2' t1 (by omega) (fun z3 A3 k3' hY3 w3 _ x1 e1 => ?_)
      have ub3 : cb_u r z3 A3 (cw_g K (r q 0) n) ≤ cz_M := by rw [← cb_abs, w3]; exact Int.le_of_lt cz_M_pos
      have on3 := onq z2 A2 z3 A3 n (by omega) j2 hY3 ub3
      refine ih (n + 1) z3 A3 x1 (by omega) (by omega) (cJ_Y j2 t1 k3' hY3) (cF_trans F2 (cF_Y h1 t1 (qS n (by omega)) hY3)) (fun i hi => ⟨?_, ?_⟩)
      · rw [on3.2 i (by omega)]
        by_cases hin : i = n
        · rw [hin]; exact ub
        · exact on.1 i (by omega) hin (m1 i (by omega)).1
      · by_cases hin : i = n
        · rw [hin]; exact ub3
        · exact on3.1 i (by omega) hin (by rw [on.2 i (by omega)]; exact (m1 i (by omega)).2)
  exact key 20 0 z A 0 (by omega) rfl h (cF_refl _ _ _ _) (fun i hi => by omega)
end CZ
