/-- class and model say the same: and were told the same chances -/
noncomputable def lw_W (K : Nat → cw_K) (r : Nat → Nat → Nat) (h : Nat) (z A : Nat → Nat → Int) (zm : Nat → Int) (Am : Nat → Nat → Int) : Prop := lw_R K r h z A zm Am ∧ (z h 14 = 1 → wy_R K r h A Am)
/-- what tell leaves of the ways: class, model -/
noncomputable def lw_tx (K : Nat → cw_K) (r : Nat → Nat → Nat) (h : Nat) (A A' : Nat → Nat → Int) (y1 y2 y3 y4 y5 k : Int) : Prop := (¬ k = 0 → A' = A) ∧ (k = 0 → (0 ≤ y2 ∧ y2 < 10) ∧ (0 ≤ y3 ∧ y3 < 4) ∧ (∀ t, t < 2 → ∀ i, ¬ (t = (y1 - 1).toNat ∧ i = (y2 * 4 + y3).toNat) → A' (r (cw_g K (r h 4) t) 0) i = A (r (cw_g K (r h 4) t) 0) i ∧ A' (r (cw_g K (r h 4) t) 1) i = A (r (cw_g K (r h 4) t) 1) i) ∧ 1 ≤ A' (r (cw_g K (r h 4) (y1 - 1).toNat) 1) (y2 * 4 + y3).toNat ∧ A' (r (cw_g K (r h 4) (y1 - 1).toNat) 0) (y2 * 4 + y3).toNat * y5 = y4 * A' (r (cw_g K (r h 4) (y1 - 1).toNat) 1) (y2 * 4 + y3).toNat)
noncomputable def lw_ty (Am B : Nat → Nat → Int) (y1 y2 y3 y4 y5 k : Int) : Prop := (¬ k = 0 → B = Am) ∧ (k = 0 → ∀ i, B 49 i = (if i = (4 * (10 * (y1 - 1) + y2) + y3).toNat then y4 else Am 49 i) ∧ B 50 i = (if i = (4 * (10 * (y1 - 1) + y2) + y3).toNat then y5 else Am 50 i))
theorem lx_expect {g k m : Int} {C M : Nat → Prop} (e : g = 1 → ∀ t, t < 2 → (C t ↔ M t)) (h : (k = 0 ∧ g = 1 ∧ C 0 ∧ C 1) ∨ (k = 1 ∧ ¬ (g = 1 ∧ C 0 ∧ C 1))) (h' : (m = 0 ∧ g = 1 ∧ M 0 ∧ M 1) ∨ (m = 1 ∧ ¬ (g = 1 ∧ M 0 ∧ M 1))) : m = k := by
  rcases h with ⟨a, b, c, d⟩ | ⟨a, b⟩ <;> rcases h' with ⟨a', b', c', d'⟩ | ⟨a', b'⟩
  · rw [a, a']
  · exact absurd ⟨b, (e b 0 (by decide)).mp c, (e b 1 (by decide)).mp d⟩ b'
  · exact absurd ⟨b', (e b' 0 (by decide)).mpr c', (e b' 1 (by decide)).mpr d'⟩ b
  · rw [a, a']
theorem lx_judge {g p k m : Int} {C M : Nat → Prop} (e : g = 1 → ∀ t, t < 2 → (C t ↔ M t)) (h : (k = 1 ∧ ¬ (p = 1 ∨ p = 2)) ∨ (k = 2 ∧ (p = 1 ∨ p = 2) ∧ ¬ (g = 1 ∧ C (p - 1).toNat)) ∨ (k = 0 ∧ (p = 1 ∨ p = 2) ∧ g = 1 ∧ C (p - 1).toNat)) (h' : (m = 1 ∧ ¬ (p = 1 ∨ p = 2)) ∨ (m = 2 ∧ (p = 1 ∨ p = 2) ∧ ¬ (g = 1 ∧ M (p - 1).toNat)) ∨ (m = 0 ∧ (p = 1 ∨ p = 2) ∧ g = 1 ∧ M (p - 1).toNat)) : m = k := by
  rcases h with ⟨a, b⟩ | ⟨a, b, c⟩ | ⟨a, b, c, d⟩ <;> rcases h' with ⟨a', b'⟩ | ⟨a', b', c'⟩ | ⟨a', b', c', d'⟩
  · rw [a, a']
  · exact absurd b' b
  · exact absurd b' b
  · exact absurd b b'
  · rw [a, a']
  · exact absurd ⟨c', (e c' _ (by omega)).mpr d'⟩ c
  · exact absurd b b'
  · exact absurd ⟨c, (e c _ (by omega)).mp d⟩ c'
  · rw [a, a']
section LW
variable {L : List Nat} {K : Nat → cw_K} {r r' : Nat → Nat → Nat} {w : Nat → Nat × Nat} {ρ : Nat → Nat} {h : Nat} {z A z' A' : Nat → Nat → Int} {zm zm' : Nat → Int} {Am B : Nat → Nat → Int} {a a' n y : Int}
theorem lw_W_keep (I : ci_I L K r w ρ z A h) (R : lw_W K r h z A zm Am) (hd : ci_E K r ρ h z A z' A') (hz : ∀ q, q ≠ 3 → q ≠ 57 → zm' q = zm q) (hm : me_Z Am B) : lw_W K r h z' A' zm' B := by
  refine ⟨lw_keep I R.1 hd.1 hz (me_md hm), fun q t ht i hi => ?_⟩
  rw [hd.1.2 14 (by decide)] at q
  rw [(hd.2 t ht).1, (hd.2 t ht).2.1, hm.1 49 (by decide) (by decide), hm.1 50 (by decide) (by decide)]
  exact R.2 q t ht i hi
theorem lw_W_type (I : ci_I L K r w ρ z A h) (R : lw_W K r h z A zm Am) (hx : lw_x ρ r h z A z' A' a n y) (hy : lw_y zm Am zm' B a' n y) : a = a' ∧ lw_W K r h z' A' zm' B := by
  obtain ⟨e, T⟩ := lw_type I R.1 hx hy
  obtain ⟨-, -, -, -, -, ⟨f1, f2, f3⟩, -⟩ := I.2.1
  have hF : cF ρ (fun q => q = 1) z A z' A' := by
    rcases hx with ⟨-, -, -, -, x5⟩ | ⟨-, -, x3, x4⟩
    · exact x5
    · rw [x3, x4]; exact cF_refl _ _ _ _
  have hB : lq_K 4 Am B := by
    rcases hy.2 with ⟨-, -, -, -, y5⟩ | ⟨-, -, -, y4⟩
    · exact y5
    · rw [y4]; exact lq_K_refl _ _
  have eh : z' h = z h := (hF h (by show ¬ ρ h = 1; rw [I.2.1.1.2]; decide)).1
  refine ⟨e, T, fun q t ht i hi => ?_⟩
  rw [eh] at q
  obtain ⟨g1, g2⟩ := f3 t ht
  obtain ⟨v1, v2, -⟩ := I.1.2.2.2.2.2.2.2.2 _ g1
  have e0 := (hF (r (cw_g K (r h 4) t) 0) (by rw [v1.2.2.2, g2]; show ¬ 3 + t = 1; omega)).2
  have e1 := (hF (r (cw_g K (r h 4) t) 1) (by rw [v2.2.2.2, g2]; show ¬ 3 + t = 1; omega)).2
  rw [e0, e1, hB 49 (by decide), hB 50 (by decide)]
  exact R.2 q t ht i hi
theorem lw_W_read {T : sp_T} (R : lw_W K r h z A zm Am) (h1 : z' (r' (r' h 0) 2) 1 = 0) (h2 : sp_R T (z (r (r h 0) 2) 1) a (z' h 15)) (h3 : a = 0 → z' h 14 = 1 ∧ (∃ σ, sp_G T σ ∧ sg_R K r' (r' h 13) σ z' A') ∧ ∀ i, i < 2 → cy_N L K r' A' (cw_g K (r' h 4) i)) (h4 : ¬ a = 0 → z' h 14 = z h 14 ∧ (∀ σ, sg_R K r (r h 13) σ z A → sg_R K r' (r' h 13) σ z' A') ∧ ∀ i, i < 2 → A' (r' (cw_g K (r' h 4) i) 0) = A (r (cw_g K (r h 4) i) 0) ∧ A' (r' (cw_g K (r' h 4) i) 1) = A (r (cw_g K (r h 4) i) 1)) (m1 : zm' 5 = 0) (m2 : sp_R T (zm 5) a' (zm' 6)) (m3 : a' = 0 → zm' 34 = 1 ∧ (∃ σ, sp_G T σ ∧ mg_R (zm' 32).toNat B σ) ∧ me_N B) (m4 : ¬ a' = 0 → zm' 34 = zm 34 ∧ zm' 32 = zm 32 ∧ (∀ σ, mg_R (zm 32).toNat Am σ → mg_R (zm 32).toNat B σ) ∧ B 49 = Am 49 ∧ B 50 = Am 50) : a = a' ∧ lw_W K r' h z' A' zm' B := by
  obtain ⟨e, T1⟩ := lw_read R.1 h1 h2 (fun q => ⟨(h3 q).1, (h3 q).2.1⟩) (fun q => ⟨(h4 q).1, (h4 q).2.1⟩) m1 m2 (fun q => ⟨(m3 q).1, (m3 q).2.1⟩) (fun q => ⟨(m4 q).1, (m4 q).2.1, (m4 q).2.2.1⟩)
  refine ⟨e, T1, fun q t ht i hi => ?_⟩
  by_cases c : a = 0
  · have x := ((h3 c).2.2 t ht).2 i hi
    have y := (m3 (e ▸ c)).2.2 (40 * t + i) (by omega)
    rw [x.1, x.2, y.1, y.2, show (40 * t + i) % 4 = i % 4 by omega]
    exact ⟨by decide, by decide, rfl⟩
  · obtain ⟨x1, x2, x3⟩ := h4 c
    obtain ⟨y1, y2, y3, y4, y5⟩ := m4 (fun q => c (e.trans q))
    rw [x1] at q
    rw [(x3 t ht).1, (x3 t ht).2, y4, y5]
    exact R.2 q t ht i hi
/-- tell: the same chance at the same place -/
theorem lw_W_tell {g9 y1 y2 y3 y4 y5 k : Int} {σ : Nat → Nat → Int} (I : ci_I L K r w ρ z A h) (R : lw_W K r h z A zm Am) (hd : ci_D ρ h z A z' A') (hz : ∀ q, q ≠ 3 → q ≠ 57 → zm' q = zm q) (hm : md_Z Am B) (lt : la_tell g9 σ y1 y2 y3 y4 y5 k) (hx : lw_tx K r h A A' y1 y2 y3 y4 y5 k) (hy : lw_ty Am B y1 y2 y3 y4 y5 k) : lw_W K r h z' A' zm' B := by
  refine ⟨lw_keep I R.1 hd hz hm, fun q t ht i hi => ?_⟩
  rw [hd.2 14 (by decide)] at q
  have R0 := R.2 q t ht i hi
  by_cases c : k = 0
  · obtain ⟨b2, b3, oth, ps, ml⟩ := hx.2 c
    have bb := hy.2 c (40 * t + i)
    have ch : (y1 = 1 ∨ y1 = 2) ∧ 1 ≤ y5 := by
      rcases lt with ⟨-, e⟩ | ⟨-, -, e⟩ | ⟨u, v, -⟩
      · omega
      · omega
      · exact ⟨u.1.2.1, v.1⟩
    by_cases e : t = (y1 - 1).toNat ∧ i = (y2 * 4 + y3).toNat
    · obtain ⟨e1, e2⟩ := e
      rw [bb.1, bb.2, if_pos (by omega), if_pos (by omega), e1, e2]
      exact ⟨ps, ch.2, ml⟩
    · obtain ⟨o1, o2⟩ := oth t ht i e
      rw [o1, o2, bb.1, bb.2, if_neg (by omega), if_neg (by omega)]
      exact R0
  · rw [hx.1 c, hy.1 c]
    exact R0
theorem lw_W_start (R : lw_R K r h z A zm Am) (h4 : z h 14 = 0) : lw_W K r h z A zm Am := ⟨R, fun q => absurd (h4.symm.trans q) (by decide)⟩
end LW
