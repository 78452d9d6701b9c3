/-- class and model hold the same text -/
noncomputable def lw_T (r : Nat → Nat → Nat) (h : Nat) (z A : Nat → Nat → Int) (zm : Nat → Int) (Am : Nat → Nat → Int) : Prop := z (r (r h 0) 2) 1 = zm 5 ∧ ∀ i : Nat, (i : Int) < zm 5 → A (r (r (r h 0) 2) 0) i = Am 4 i
/-- what type leaves: the class, the model -/
noncomputable def lw_x (ρ : Nat → Nat) (r : Nat → Nat → Nat) (h : Nat) (z A z' A' : Nat → Nat → Int) (a n y : Int) : Prop := (ct_ok y n (z (r (r h 0) 2) 1) ∧ a = z (r (r h 0) 2) 1 + n ∧ z' (r (r h 0) 2) 1 = z (r (r h 0) 2) 1 + n ∧ tx_R (A (r (r (r h 0) 2) 0)) (A' (r (r (r h 0) 2) 0)) (z (r (r h 0) 2) 1) n y ∧ cF ρ (fun q => q = 1) z A z' A') ∨ (¬ ct_ok y n (z (r (r h 0) 2) 1) ∧ a = -1 ∧ z' = z ∧ A' = A)
noncomputable def lw_y (zm : Nat → Int) (Am : Nat → Nat → Int) (zm' : Nat → Int) (B : Nat → Nat → Int) (a n y : Int) : Prop := (∀ q, q ≠ 3 → q ≠ 5 → zm' q = zm q) ∧ ((mt_ok y n (zm 5) ∧ a = zm 5 + n ∧ zm' 5 = zm 5 + n ∧ tx_R (Am 4) (B 4) (zm 5) n y ∧ lq_K 4 Am B) ∨ (¬ mt_ok y n (zm 5) ∧ a = -1 ∧ zm' 5 = zm 5 ∧ B = Am))
section LW
variable {L : List Nat} {K : Nat → cw_K} {r r' : Nat → Nat → Nat} {w : Nat → Nat × Nat} {ρ : Nat → Nat} {h : Nat} {z A z' A' : Nat → Nat → Int} {zm zm' : Nat → Int} {Am B : Nat → Nat → Int} {a a' n y : Int}
theorem lw_T_keep (I : ci_I L K r w ρ z A h) (R : lw_T r h z A zm Am) (hd : ci_D ρ h z A z' A') (hz : ∀ q, q ≠ 3 → q ≠ 57 → zm' q = zm q) (hm : md_Z Am B) : lw_T r h z' A' zm' B := by
  obtain ⟨⟨a1, a2⟩, ⟨b1, b2⟩, ⟨c1, c2, c3⟩, -⟩ := I.2.1
  have e1 := (hd.1 (r (r h 0) 2) (by rw [c2]; show ¬ ((1 : Nat) = 0 ∨ (2 ≤ 1 ∧ 1 ≤ 16)); omega)).1
  have e2 := (hd.1 (r (r (r h 0) 2) 0) (by rw [c3]; show ¬ ((1 : Nat) = 0 ∨ (2 ≤ 1 ∧ 1 ≤ 16)); omega)).2
  unfold lw_T
  rw [e1, e2, hz 5 (by decide) (by decide), hm 4 (by decide) (by decide)]
  exact R
theorem lw_T_type (I : ci_I L K r w ρ z A h) (R : lw_T r h z A zm Am) (hx : lw_x ρ r h z A z' A' a n y) (hy : lw_y zm Am zm' B a' n y) : a = a' ∧ lw_T r h z' A' zm' B := by
  obtain ⟨R1, R2⟩ := R
  obtain ⟨hk, hy⟩ := hy
  rcases hx with ⟨x1, x2, x3, x4, x5⟩ | ⟨x1, x2, x3, x4⟩ <;> rcases hy with ⟨y1, y2, y3, y4, -⟩ | ⟨y1, y2, y3, y4⟩
  · rw [R1] at x2 x3 x4
    refine ⟨by omega, by omega, fun i hi => ?_⟩
    by_cases hl : (i : Int) < zm 5
    · rw [x4.1 i hl, y4.1 i hl]
      exact R2 i hl
    · obtain ⟨g1, g2, g3, g4⟩ := y1
      have hq := x4.2 (zm 5 + n - 1 - (i : Int)).toNat (by omega)
      have hq' := y4.2 (zm 5 + n - 1 - (i : Int)).toNat (by omega)
      rw [show (zm 5 + n - 1 - (((zm 5 + n - 1 - (i : Int)).toNat : Nat) : Int)).toNat = i by omega] at hq hq'
      rw [hq, hq']
  · rw [R1] at x1
    exact absurd x1 y1
  · rw [R1] at x1
    exact absurd y1 x1
  · rw [x3, x4, y4]
    refine ⟨by omega, by rw [y3]; exact R1, ?_⟩
    rw [y3]
    exact R2
theorem cl_R_congr {c c' : Nat → Int} {m p b q : Nat} {k : Int} (e : ∀ i, i < m → c i = c' i) (hR : cl_R c m p k b q) : cl_R c' m p k b q := by
  obtain ⟨h1, h2, h3, h4, h5⟩ := hR
  refine ⟨h1, h2, fun j j1 j2 => by rw [← e j (by omega)]; exact h3 j j1 j2, fun hb => by rw [← e b hb]; exact h4 hb, ?_⟩
  rcases h5 with h5 | ⟨a1, a2, a3, a4, a5, a6, a7⟩ | ⟨a1, a2, a3, a4⟩
  · exact Or.inl h5
  · exact Or.inr (Or.inl ⟨a1, by rw [← e b a1]; exact a2, a3, a4, fun j j1 j2 => by rw [← e j (by omega)]; exact a5 j j1 j2, fun hq => by rw [← e q hq]; exact a6 hq, a7⟩)
  · exact Or.inr (Or.inr ⟨a1, by rw [← e b a1]; exact a2, a3, by rw [← e b a1]; exact a4⟩)
theorem tk_v_congr {c c' : Nat → Int} {b m : Nat} (e : ∀ i, i < m → c (b + i) = c' (b + i)) : tk_v c b m = tk_v c' b m := by
  induction m with
  | zero => rfl
  | succ m ih =>
    simp only [tk_v]
    rw [ih (fun i hi => e i (by omega)), e m (by omega)]
theorem tk_T_congr {c c' : Nat → Int} {m : Nat} {T : sp_T} {ps : Nat → Nat} {nt : Nat} (e : ∀ i, i < m → c i = c' i) (hT : tk_T c m T ps nt) : tk_T c' m T ps nt := by
  obtain ⟨h1, h2, h3⟩ := hT
  refine ⟨h1, h2, fun k hk => ?_⟩
  obtain ⟨b, b1, b2, b3, b4, b5⟩ := h3 k hk
  refine ⟨b, cl_R_congr e b1, b2, fun q => ?_, b4, b5⟩
  rw [b3 q]
  refine tk_v_congr (fun i hi => e _ ?_)
  rw [q] at b1
  rcases b1.2.2.2.2 with ⟨-, g, -⟩ | ⟨-, -, -, g, -⟩ | ⟨-, -, -, ⟨g1, g⟩ | ⟨-, g⟩⟩
  · omega
  · omega
  · unfold cl_w at g1; omega
  · omega
theorem lw_tk {T : sp_T} {ps : Nat → Nat} {nt : Nat} (R : lw_T r h z A zm Am) (TK : tk_T (A (r (r (r h 0) 2) 0)) (z (r (r h 0) 2) 1).toNat T ps nt) : tk_T (Am 4) (zm 5).toNat T ps nt := by
  obtain ⟨R1, R2⟩ := R
  rw [R1] at TK
  exact tk_T_congr (fun i hi => R2 i (by omega)) TK
end LW
/-- class and model say the same: the text, the place, whether there is a game, and which -/
noncomputable def lw_R (K : Nat → cw_K) (r : Nat → Nat → Nat) (h : Nat) (z A : Nat → Nat → Int) (zm : Nat → Int) (Am : Nat → Nat → Int) : Prop := lw_T r h z A zm Am ∧ z h 15 = zm 6 ∧ z h 14 = zm 34 ∧ ∃ σ : Nat → Nat → Int, z h 14 = 1 → sg_R K r (r h 13) σ z A ∧ mg_R (zm 32).toNat Am σ
section LW
variable {L : List Nat} {K : Nat → cw_K} {r r' : Nat → Nat → Nat} {w : Nat → Nat × Nat} {ρ : Nat → Nat} {h : Nat} {z A z' A' : Nat → Nat → Int} {zm zm' : Nat → Int} {Am B : Nat → Nat → Int} {a a' n y : Int}
theorem lw_keep (I : ci_I L K r w ρ z A h) (R : lw_R K r h z A zm Am) (hd : ci_D ρ h z A z' A') (hz : ∀ q, q ≠ 3 → q ≠ 57 → zm' q = zm q) (hm : md_Z Am B) : lw_R K r h z' A' zm' B := by
  obtain ⟨R1, R2, R3, σ, R4⟩ := R
  have g := ci_g I
  refine ⟨lw_T_keep I R1 hd hz hm, by rw [hd.2 15 (by decide), hz 6 (by decide) (by decide)]; exact R2, by rw [hd.2 14 (by decide), hz 34 (by decide) (by decide)]; exact R3, σ, fun q => ?_⟩
  rw [hd.2 14 (by decide)] at q
  obtain ⟨a1, b1⟩ := R4 q
  refine ⟨sg_keepF I.1.2.2.1 I.1.2.2.2.2.2.2.1 g.1 hd.1 (by show ¬ (ρ (r h 13) = 0 ∨ (2 ≤ ρ (r h 13) ∧ ρ (r h 13) ≤ 16)); omega) a1, ?_⟩
  rw [hz 32 (by decide) (by decide)]
  exact mg_same (fun k hk => hm k (by omega) (by omega)) b1
theorem lw_type (I : ci_I L K r w ρ z A h) (R : lw_R K r h z A zm Am) (hx : lw_x ρ r h z A z' A' a n y) (hy : lw_y zm Am zm' B a' n y) : a = a' ∧ lw_R K r h z' A' zm' B := by
  obtain ⟨R1, R2, R3, σ, R4⟩ := R
  obtain ⟨e, T⟩ := lw_T_type I R1 hx hy
  have g := ci_g I
  obtain ⟨hk, hy⟩ := hy
  have hF : cF ρ (fun q => q = 1) z A z' A' := by
    rcases hx with ⟨-, -, -, -, x5⟩ | ⟨-, -, x3, x4⟩
    · exact x5
    · rw [x3, x4]; exact cF_refl _ _ _ _
  have hB : lq_K 4 Am B := by
    rcases hy with ⟨-, -, -, -, y5⟩ | ⟨-, -, -, y4⟩
    · exact y5
    · rw [y4]; exact lq_K_refl _ _
  have eh : z' h = z h := (hF h (by show ¬ ρ h = 1; rw [I.2.1.1.2]; decide)).1
  refine ⟨e, T, by rw [eh, hk 6 (by decide) (by decide)]; exact R2, by rw [eh, hk 34 (by decide) (by decide)]; exact R3, σ, fun q => ?_⟩
  rw [eh] at q
  obtain ⟨a1, b1⟩ := R4 q
  refine ⟨sg_keepF I.1.2.2.1 I.1.2.2.2.2.2.2.1 g.1 hF (by show ¬ ρ (r h 13) = 1; omega) a1, ?_⟩
  rw [hk 32 (by decide) (by decide)]
  exact mg_same (fun k hk' => hB k (by omega)) b1
theorem lw_read {T : sp_T} (R : lw_R K r h z A zm Am) (h1 : z' (r' (r' h 0) 2) 1 = 0) (h2 : sp_R T (z (r (r h 0) 2) 1) a (z' h 15)) (h3 : a = 0 → z' h 14 = 1 ∧ ∃ σ, sp_G T σ ∧ sg_R K r' (r' h 13) σ z' A') (h4 : ¬ a = 0 → z' h 14 = z h 14 ∧ ∀ σ, sg_R K r (r h 13) σ z A → sg_R K r' (r' h 13) σ z' A') (m1 : zm' 5 = 0) (m2 : sp_R T (zm 5) a' (zm' 6)) (m3 : a' = 0 → zm' 34 = 1 ∧ ∃ σ, sp_G T σ ∧ mg_R (zm' 32).toNat B σ) (m4 : ¬ a' = 0 → zm' 34 = zm 34 ∧ zm' 32 = zm 32 ∧ ∀ σ, mg_R (zm 32).toNat Am σ → mg_R (zm 32).toNat B σ) : a = a' ∧ lw_R K r' h z' A' zm' B := by
  obtain ⟨R1, R2, R3, σ, R4⟩ := R
  rw [R1.1] at h2
  obtain ⟨e1, e2⟩ := sp_R_uniq h2 m2
  subst e1
  refine ⟨rfl, ⟨by rw [h1, m1], fun i hi => by rw [m1] at hi; omega⟩, e2, ?_⟩
  by_cases c : a = 0
  · obtain ⟨x1, s1, x2, x3⟩ := h3 c
    obtain ⟨y1, s2, y2, y3⟩ := m3 c
    have es := sp_G_uniq x2 y2
    subst es
    exact ⟨by rw [x1, y1], s1, fun _ => ⟨x3, y3⟩⟩
  · obtain ⟨x1, x2⟩ := h4 c
    obtain ⟨y1, y2, y3⟩ := m4 c
    refine ⟨by rw [x1, y1]; exact R3, σ, fun q => ?_⟩
    rw [x1] at q
    obtain ⟨a1, b1⟩ := R4 q
    rw [y2]
    exact ⟨x2 σ a1, y3 σ b1⟩
theorem lw_start (h1 : z (r (r h 0) 2) 1 = 0) (h4 : z h 14 = 0) (h5 : z h 15 = -1) (m5 : zm 5 = 0) (m6 : zm 6 = -1) (m4 : zm 34 = 0) : lw_R K r h z A zm Am := ⟨⟨by rw [h1, m5], fun i hi => by rw [m5] at hi; omega⟩, by rw [h5, m6], by rw [h4, m4], fun _ _ => 0, fun q => absurd (h4.symm.trans q) (by decide)⟩
end LW
