/-- what was judged is the same, and the class's chances stand in least terms -/
noncomputable def lw_J (K : Nat → cw_K) (r : Nat → Nat → Nat) (h : Nat) (z A Am : Nat → Nat → Int) : Prop := (z h 14 = 1 → ∀ t, t < 2 → ∀ i, i < 40 → Nat.gcd (A (r (cw_g K (r h 4) t) 0) i).natAbs (A (r (cw_g K (r h 4) t) 1) i).natAbs = 1) ∧ ∀ t, t < 2 → z (cw_g K (r h 9) (2 + t)) 2 = Am 51 (2 + t) ∧ (Am 51 (2 + t) = 1 → ∀ s : Nat, (s : Int) < z (cw_g K (r (r h 13) 1) (1 - t)) 0 → A (r (cw_g K (r h 7) t) 0) s = Am 53 (10 * (1 - t) + s))
noncomputable def lw_V (K : Nat → cw_K) (r : Nat → Nat → Nat) (h : Nat) (z A : Nat → Nat → Int) (zm : Nat → Int) (Am : Nat → Nat → Int) : Prop := lw_W K r h z A zm Am ∧ lw_J K r h z A Am
/-- what tell leaves beside the ways -/
noncomputable def lw_tj (K : Nat → cw_K) (r : Nat → Nat → Nat) (h : Nat) (z A z' A' : Nat → Nat → Int) (y1 y2 y3 k : Int) : Prop := z' = z ∧ (∀ i, i < 2 → A' (r (cw_g K (r h 7) i) 0) = A (r (cw_g K (r h 7) i) 0)) ∧ (k = 0 → Nat.gcd (A' (r (cw_g K (r h 4) (y1 - 1).toNat) 0) (y2 * 4 + y3).toNat).natAbs (A' (r (cw_g K (r h 4) (y1 - 1).toNat) 1) (y2 * 4 + y3).toNat).natAbs = 1)
/-- what judge leaves: class, model -/
noncomputable def lw_jx (K : Nat → cw_K) (r : Nat → Nat → Nat) (ρ : Nat → Nat) (h : Nat) (σ Am z A : Nat → Nat → Int) (y : Int) (z' A' : Nat → Nat → Int) : Prop := (¬ ((y = 1 ∨ y = 2) ∧ z h 14 = 1 ∧ ce_G K r h z A Am (y - 1).toNat) ∧ z' = z ∧ A' = A) ∨ (((y = 1 ∨ y = 2) ∧ z h 14 = 1 ∧ ce_G K r h z A Am (y - 1).toNat) ∧ ci_0 K r ρ h z A z' A' ∧ z' (cw_g K (r h 9) (2 + (y - 1).toNat)) 2 = 1 ∧ (∀ t, t < 2 → t ≠ (y - 1).toNat → z' (cw_g K (r h 9) (2 + t)) 2 = z (cw_g K (r h 9) (2 + t)) 2 ∧ A' (r (cw_g K (r h 7) t) 0) = A (r (cw_g K (r h 7) t) 0)) ∧ rb_B (σ 1 (2 - y).toNat).toNat (σ (12 + (2 - y).toNat)) (fun xx => cg_d (((2 - y).toNat : Nat) : Int) * rv_V σ (2 - y).toNat (A (r (cw_g K (r h 4) (y - 1).toNat) 0)) (A (r (cw_g K (r h 4) (y - 1).toNat) 1)) xx) (A' (r (cw_g K (r h 7) (y - 1).toNat) 0)))
noncomputable def lw_jy (zm : Nat → Int) (Am : Nat → Nat → Int) (V : (Nat → Int) → Int) (y : Int) (B : Nat → Nat → Int) : Prop := (¬ ((y = 1 ∨ y = 2) ∧ zm 34 = 1 ∧ me_G zm Am (y - 1).toNat) ∧ B = Am) ∨ (((y = 1 ∨ y = 2) ∧ zm 34 = 1 ∧ me_G zm Am (y - 1).toNat) ∧ me_0 Am B ∧ mj_f (2 - y).toNat y Am B ∧ mj_E (2 - y).toNat (Am 26 (2 * (zm 32).toNat + (2 - y).toNat)).toNat (fun s => Am 28 (20 * (zm 32).toNat + (10 * (2 - y).toNat + s))) V y B)
/-- an answer, or none -/
noncomputable def la_rp (C : Prop) (v x : Int) : Prop := (C ∧ x = v) ∨ (¬ C ∧ x = -1)
theorem la_rp_u {C M : Prop} {v v' x x' : Int} (e : C ↔ M) (ev : C → v = v') (h : la_rp C v x) (h' : la_rp M v' x') : x = x' := by
  rcases h with ⟨a, b⟩ | ⟨a, b⟩ <;> rcases h' with ⟨a', b'⟩ | ⟨a', b'⟩
  · rw [b, b', ev a]
  · exact absurd (e.mp a) a'
  · exact absurd (e.mpr a') a
  · rw [b, b']
section LW
variable {L : List Nat} {K : Nat → cw_K} {r r' : Nat → Nat → Nat} {w : Nat → Nat × Nat} {ρ : Nat → Nat} {h : Nat} {z A z' A' : Nat → Nat → Int} {zm zm' : Nat → Int} {Am B σ : Nat → Nat → Int} {a a' n y : Int}
theorem lw_W_keep0 (I : ci_I L K r w ρ z A h) (R : lw_W K r h z A zm Am) (hd : ci_0 K r ρ h z A z' A') (hz : ∀ q, q ≠ 3 → q ≠ 57 → zm' q = zm q) (hm : me_0 Am B) : lw_W K r h z' A' zm' B := by
  refine ⟨lw_keep I R.1 hd.1 hz (me_0_md hm), fun q t ht i hi => ?_⟩
  rw [hd.1.2 14 (by decide)] at q
  rw [(hd.2 t ht).1, (hd.2 t ht).2, hm 49 (by decide) (by decide), hm 50 (by decide) (by decide)]
  exact R.2 q t ht i hi
theorem lw_side {t : Nat} (ht : t < 2) (I : ci_I L K r w ρ z A h) (hd : ci_D ρ h z A z' A') : z' (cw_g K (r (r h 13) 1) t) = z (cw_g K (r (r h 13) 1) t) := by
  obtain ⟨g1, g2⟩ := ci_g I
  exact (hd.1 _ (by rw [((I.1.2.2.1 _ g1).2.1.2.2 t ht).2.2]; show ¬ (ρ (r h 13) = 0 ∨ (2 ≤ ρ (r h 13) ∧ ρ (r h 13) ≤ 16)); omega)).1
theorem lw_V_keep (I : ci_I L K r w ρ z A h) (R : lw_V K r h z A zm Am) (hd : ci_E K r ρ h z A z' A') (hz : ∀ q, q ≠ 3 → q ≠ 57 → zm' q = zm q) (hm : me_Z Am B) : lw_V K r h z' A' zm' B := by
  obtain ⟨R1, c, f⟩ := R
  refine ⟨lw_W_keep I R1 hd hz hm, fun q t ht i hi => ?_, fun t ht => ⟨?_, fun k s hs => ?_⟩⟩
  · rw [hd.1.2 14 (by decide)] at q
    rw [(hd.2 t ht).1, (hd.2 t ht).2.1]
    exact c q t ht i hi
  · rw [(hd.2 t ht).2.2.1, hm.2.1 (2 + t) (by omega)]
    exact (f t ht).1
  · rw [hm.2.1 (2 + t) (by omega)] at k
    rw [lw_side (by omega) I hd.1] at hs
    rw [(hd.2 t ht).2.2.2, hm.2.2]
    exact (f t ht).2 k s hs
theorem lw_V_type (I : ci_I L K r w ρ z A h) (R : lw_V K r h z A zm Am) (hx : lw_x ρ r h z A z' A' a n y) (hy : lw_y zm Am zm' B a' n y) : a = a' ∧ lw_V K r h z' A' zm' B := by
  obtain ⟨R1, c, f⟩ := R
  obtain ⟨e, T⟩ := lw_W_type I R1 hx hy
  obtain ⟨-, -, -, -, -, ⟨f1, f2, f3⟩, -, -, ⟨j1, j2, j3⟩, -, ⟨l1, l2, l3⟩, -⟩ := I.2.1
  obtain ⟨g1, g2⟩ := ci_g I
  have hF : cF ρ (fun q => q = 1) z A z' A' := by
    rcases hx with ⟨-, -, -, -, x5⟩ | ⟨-, -, x3, x4⟩
    · exact x5
    · rw [x3, x4]; exact cF_refl _ _ _ _
  have hB : lq_K 4 Am B := by
    rcases hy.2 with ⟨-, -, -, -, y5⟩ | ⟨-, -, -, y4⟩
    · exact y5
    · rw [y4]; exact lq_K_refl _ _
  have eh : z' h = z h := (hF h (by show ¬ ρ h = 1; rw [I.2.1.1.2]; decide)).1
  refine ⟨e, T, fun q t ht i hi => ?_, fun t ht => ⟨?_, fun k s hs => ?_⟩⟩
  · rw [eh] at q
    obtain ⟨u1, u2⟩ := f3 t ht
    obtain ⟨v1, v2, -⟩ := I.1.2.2.2.2.2.2.2.2 _ u1
    rw [(hF (r (cw_g K (r h 4) t) 0) (by rw [v1.2.2.2, u2]; show ¬ 3 + t = 1; omega)).2, (hF (r (cw_g K (r h 4) t) 1) (by rw [v2.2.2.2, u2]; show ¬ 3 + t = 1; omega)).2]
    exact c q t ht i hi
  · rw [(hF _ (by rw [(l3 (2 + t) (by omega)).2]; show ¬ 12 + (2 + t) = 1; omega)).1, hB 51 (by decide)]
    exact (f t ht).1
  · rw [hB 51 (by decide)] at k
    rw [(hF _ (by rw [((I.1.2.2.1 _ g1).2.1.2.2 (1 - t) (by omega)).2.2]; show ¬ ρ (r h 13) = 1; omega)).1] at hs
    obtain ⟨P1, P2⟩ := j3 t ht
    rw [(hF _ (by rw [(I.1.2.2.2.2.2.1 _ P1).1.2.2.2, P2]; show ¬ 9 + t = 1; omega)).2, hB 53 (by decide)]
    exact (f t ht).2 k s hs
theorem lw_V_read {T : sp_T} (R : lw_V K r h z A zm Am) (h1 : z' (r' (r' h 0) 2) 1 = 0) (h2 : sp_R T (z (r (r h 0) 2) 1) a (z' h 15)) (h3 : a = 0 → z' h 14 = 1 ∧ (∃ σ, sp_G T σ ∧ sg_R K r' (r' h 13) σ z' A') ∧ (∀ i, i < 2 → cy_N L K r' A' (cw_g K (r' h 4) i)) ∧ ∀ i, i < 4 → z' (cw_g K (r' h 9) i) 2 = 0) (h4 : ¬ a = 0 → z' h 14 = z h 14 ∧ (∀ σ, sg_R K r (r h 13) σ z A → sg_R K r' (r' h 13) σ z' A') ∧ ∀ i, i < 2 → A' (r' (cw_g K (r' h 4) i) 0) = A (r (cw_g K (r h 4) i) 0) ∧ A' (r' (cw_g K (r' h 4) i) 1) = A (r (cw_g K (r h 4) i) 1) ∧ z' (cw_g K (r' h 9) (2 + i)) 2 = z (cw_g K (r h 9) (2 + i)) 2 ∧ A' (r' (cw_g K (r' h 7) i) 0) = A (r (cw_g K (r h 7) i) 0) ∧ z' (cw_g K (r' (r' h 13) 1) i) 0 = z (cw_g K (r (r h 13) 1) i) 0) (m1 : zm' 5 = 0) (m2 : sp_R T (zm 5) a' (zm' 6)) (m3 : a' = 0 → zm' 34 = 1 ∧ (∃ σ, sp_G T σ ∧ mg_R (zm' 32).toNat B σ) ∧ me_N B ∧ ∀ i, i < 4 → B 51 i = 0) (m4 : ¬ a' = 0 → zm' 34 = zm 34 ∧ zm' 32 = zm 32 ∧ (∀ σ, mg_R (zm 32).toNat Am σ → mg_R (zm 32).toNat B σ) ∧ B 49 = Am 49 ∧ B 50 = Am 50 ∧ B 51 = Am 51 ∧ B 53 = Am 53) : a = a' ∧ lw_V K r' h z' A' zm' B := by
  obtain ⟨R1, c, f⟩ := R
  obtain ⟨e, T1⟩ := lw_W_read (L := L) R1 h1 h2 (fun q => ⟨(h3 q).1, (h3 q).2.1, (h3 q).2.2.1⟩) (fun q => ⟨(h4 q).1, (h4 q).2.1, fun i hi => ⟨((h4 q).2.2 i hi).1, ((h4 q).2.2 i hi).2.1⟩⟩) m1 m2 (fun q => ⟨(m3 q).1, (m3 q).2.1, (m3 q).2.2.1⟩) (fun q => ⟨(m4 q).1, (m4 q).2.1, (m4 q).2.2.1, (m4 q).2.2.2.1, (m4 q).2.2.2.2.1⟩)
  refine ⟨e, T1, fun q t ht i hi => ?_, fun t ht => ?_⟩
  · by_cases c0 : a = 0
    · have x := ((h3 c0).2.2.1 t ht).2 i hi
      rw [x.1, x.2]
      split <;> decide
    · obtain ⟨x1, x2, x3⟩ := h4 c0
      rw [x1] at q
      rw [(x3 t ht).1, (x3 t ht).2.1]
      exact c q t ht i hi
  · by_cases c0 : a = 0
    · have x := (h3 c0).2.2.2 (2 + t) (by omega)
      have y9 := (m3 (e ▸ c0)).2.2.2 (2 + t) (by omega)
      rw [x, y9]
      exact ⟨rfl, fun k => absurd k (by decide)⟩
    · obtain ⟨x1, x2, x3⟩ := h4 c0
      obtain ⟨y1, y2, y3, y4, y5, y6, y7⟩ := m4 (fun q => c0 (e.trans q))
      rw [(x3 t ht).2.2.1, (x3 t ht).2.2.2.1, (x3 (1 - t) (by omega)).2.2.2.2, y6, y7]
      exact f t ht
/-- tell: the same chance at the same place -/
theorem lw_V_tell {g9 y1 y2 y3 y4 y5 k : Int} (I : ci_I L K r w ρ z A h) (R : lw_V K r h z A zm Am) (hd : ci_D ρ h z A z' A') (hz : ∀ q, q ≠ 3 → q ≠ 57 → zm' q = zm q) (hm : md_Z Am B) (lt : la_tell g9 σ y1 y2 y3 y4 y5 k) (hx : lw_tx K r h A A' y1 y2 y3 y4 y5 k) (hj : lw_tj K r h z A z' A' y1 y2 y3 k) (hy : lw_ty Am B y1 y2 y3 y4 y5 k) (hb : B 51 = Am 51 ∧ B 53 = Am 53) : lw_V K r h z' A' zm' B := by
  obtain ⟨R1, c, f⟩ := R
  obtain ⟨ez, ar, cop⟩ := hj
  refine ⟨lw_W_tell I R1 hd hz hm lt hx hy, fun q t ht i hi => ?_, fun t ht => ?_⟩
  · rw [ez] at q
    have R0 := c q t ht i hi
    by_cases ck : k = 0
    · obtain ⟨b2, b3, oth, ps, ml⟩ := hx.2 ck
      by_cases e : t = (y1 - 1).toNat ∧ i = (y2 * 4 + y3).toNat
      · obtain ⟨e1, e2⟩ := e
        rw [e1, e2]
        exact cop ck
      · obtain ⟨o1, o2⟩ := oth t ht i e
        rw [o1, o2]
        exact R0
    · rw [hx.1 ck]
      exact R0
  · rw [ez, ar t ht, hb.1, hb.2]
    exact f t ht
/-- judge: the same plan is kept -/
theorem lw_V_judge (I : ci_I L K r w ρ z A h) (R : lw_V K r h z A zm Am) (G : z h 14 = 1 → sg_R K r (r h 13) σ z A) (M : zm 34 = 1 → mg_R (zm 32).toNat Am σ) (hg : z h 14 = zm 34) (ec : zm 34 = 1 → ∀ t, t < 2 → (ce_G K r h z A Am t ↔ me_G zm Am t)) (hx : lw_jx K r ρ h σ Am z A y z' A') (hy : lw_jy zm Am (rv_V σ (2 - y).toNat (A (r (cw_g K (r h 4) (y - 1).toNat) 0)) (A (r (cw_g K (r h 4) (y - 1).toNat) 1))) y B) (hz : ∀ q, q ≠ 3 → q ≠ 57 → zm' q = zm q) : lw_V K r h z' A' zm' B := by
  rcases hx with ⟨nx, ez, eA⟩ | ⟨cx, hd, fl, oth, bx⟩ <;> rcases hy with ⟨ny, eB⟩ | ⟨cy, hm, fr, th, kk, k1, k2⟩
  · rw [ez, eA, eB]
    exact lw_V_keep I R (ci_E_refl _ _ _ _ _ _) hz (me_refl _)
  · exact absurd ⟨cy.1, hg.trans cy.2.1, (ec cy.2.1 _ (by omega)).mpr cy.2.2⟩ nx
  · exact absurd ⟨cx.1, hg.symm.trans cx.2.1, (ec (hg.symm.trans cx.2.1) _ (by omega)).mp cx.2.2⟩ ny
  · obtain ⟨R1, c, f⟩ := R
    have Gx := G cx.2.1
    have Mx := M cy.2.1
    have hp := cx.1
    obtain ⟨x, ex⟩ : ∃ x : Nat, x = (y - 1).toNat := ⟨_, rfl⟩
    obtain ⟨q, eq⟩ : ∃ q : Nat, q = (2 - y).toNat := ⟨_, rfl⟩
    rw [← ex] at fl oth bx
    rw [← eq] at bx fr k1 k2
    have x2 : x < 2 := by omega
    have q2 : q < 2 := by omega
    have xq : 1 - x = q := by omega
    have i51 : (1 + y).toNat = 2 + x := by omega
    rw [i51] at th
    have fr1 : ∀ i, i ≠ 2 + x → B 51 i = Am 51 i := by
      have := fr.1
      rw [i51] at this
      exact this
    have n1 := Mx.2.1 q q2
    have s1 := Mx.2.2 q q2
    rw [n1, ← ex] at k2
    rw [n1] at k1
    have same := rb_u bx (rb_B_congr (fun i hi => ((s1.2 i (by omega)).2.1).symm) (fun _ _ => rfl) k2)
    refine ⟨lw_W_keep0 I R1 hd hz hm, fun qq t ht i hi => ?_, fun t ht => ?_⟩
    · rw [hd.1.2 14 (by decide)] at qq
      rw [(hd.2 t ht).1, (hd.2 t ht).2]
      exact c qq t ht i hi
    · by_cases e : t = x
      · rw [e]
        refine ⟨by rw [fl, th], fun _ s hs => ?_⟩
        rw [lw_side (by omega) I hd.1, xq, (Gx.2 q q2).1] at hs
        rw [xq, same s (by omega), k1 s (by omega)]
      · obtain ⟨o1, o2⟩ := oth t ht e
        rw [o1, o2, fr1 (2 + t) (by omega)]
        refine ⟨(f t ht).1, fun k s hs => ?_⟩
        rw [lw_side (by omega) I hd.1] at hs
        have s10 := (Mx.2.2 (1 - t) (by omega)).1
        have sz := (Gx.2 (1 - t) (by omega)).1
        rw [fr.2 _ (by omega)]
        exact (f t ht).2 k s hs
theorem lw_jy_of {V : (Nat → Int) → Int} {t : Int} (d : me_0 Am B) (l : (t = 1 ∧ ¬ (y = 1 ∨ y = 2) ∧ B = Am) ∨ (t = 2 ∧ ((y = 1 ∨ y = 2) ∧ ¬ (zm 34 = 1 ∧ me_G zm Am (y - 1).toNat)) ∧ B = Am) ∨ (t = 0 ∧ ((y = 1 ∨ y = 2) ∧ zm 34 = 1 ∧ me_G zm Am (y - 1).toNat) ∧ mj_f (2 - y).toNat y Am B ∧ mj_E (2 - y).toNat (Am 26 (2 * (zm 32).toNat + (2 - y).toNat)).toNat (fun s => Am 28 (20 * (zm 32).toNat + (10 * (2 - y).toNat + s))) V y B)) : lw_jy zm Am V y B := by
  rcases l with ⟨-, a, b⟩ | ⟨-, a, b⟩ | ⟨-, a, b, c⟩
  · exact Or.inl ⟨fun q => a q.1, b⟩
  · exact Or.inl ⟨fun q => a.2 q.2, b⟩
  · exact Or.inr ⟨a, d, b, c⟩
/-- what the model's judge asks for -/
theorem lw_HA (hI : mi_I zm Am) (W9 : z h 14 = 1 → wy_R K r h A Am) (G : z h 14 = 1 → sg_R K r (r h 13) σ z A) (M : zm 34 = 1 → mg_R (zm 32).toNat Am σ) (hg : z h 14 = zm 34) : (y = 1 ∨ y = 2) → zm 34 = 1 → me_G zm Am (y - 1).toNat → 0 < Am 25 (zm 32).toNat * wy_p (wy_f (A (r (cw_g K (r h 4) (y - 1).toNat) 0)) (A (r (cw_g K (r h 4) (y - 1).toNat) 1)) (σ (12 + (1 - (2 - y).toNat))) (fun _ => -1)) (σ 1 (1 - (2 - y).toNat)).toNat ∧ (∀ xa xb : Nat → Int, (∀ s, s < (Am 26 (2 * (zm 32).toNat + (2 - y).toNat)).toNat → xa s = xb s) → rv_V σ (2 - y).toNat (A (r (cw_g K (r h 4) (y - 1).toNat) 0)) (A (r (cw_g K (r h 4) (y - 1).toNat) 1)) xa = rv_V σ (2 - y).toNat (A (r (cw_g K (r h 4) (y - 1).toNat) 0)) (A (r (cw_g K (r h 4) (y - 1).toNat) 1)) xb) ∧ ∀ xa, rb_pl (Am 26 (2 * (zm 32).toNat + (2 - y).toNat)).toNat (fun s => Am 28 (20 * (zm 32).toNat + (10 * (2 - y).toNat + s))) xa → ∃ I : Nat → Nat → Int, mj_I Am (zm 32).toNat (2 - y).toNat (Am 25 (zm 32).toNat * wy_p (wy_f (A (r (cw_g K (r h 4) (y - 1).toNat) 0)) (A (r (cw_g K (r h 4) (y - 1).toNat) 1)) (σ (12 + (1 - (2 - y).toNat))) (fun _ => -1)) (σ 1 (1 - (2 - y).toNat)).toNat) xa I ∧ cS (fun e => I e (Am 21 (400 * (zm 32).toNat + e)).toNat) (Am 14 (zm 32).toNat).toNat = rv_V σ (2 - y).toNat (A (r (cw_g K (r h 4) (y - 1).toNat) 0)) (A (r (cw_g K (r h 4) (y - 1).toNat) 1)) xa := by
  intro hp hk _
  have hz : z h 14 = 1 := hg.trans hk
  have Gx := G hz
  have Mx := M hk
  have W0 := W9 hz
  have mg := hI.2.2.2.2.2.1 hk
  have sv := Gx.1.2.2
  have ex : 1 - (2 - y).toNat = (y - 1).toNat := by omega
  have hX : ∀ i, i < 40 → 1 ≤ A (r (cw_g K (r h 4) (y - 1).toNat) 1) i ∧ A (r (cw_g K (r h 4) (y - 1).toNat) 0) i * Am 50 (40 * (1 - (2 - y).toNat) + i) = Am 49 (40 * (1 - (2 - y).toNat) + i) * A (r (cw_g K (r h 4) (y - 1).toNat) 1) i := fun i hi => by
    rw [ex]
    have q := W0 (y - 1).toNat (by omega) i hi
    exact ⟨q.1, q.2.2⟩
  have mod := fun x => rv_model (q := (2 - y).toNat) (by omega) Mx.1.2 Mx.1.1.2.1 mg.1 mg.2.1 sv hX x
  refine ⟨(mod (fun _ => 0)).1, fun xa xb e => rv_V_congr (by omega) sv (fun s hs => e s ?_), fun xa _ => (mod xa).2⟩
  rw [Mx.2.1 (2 - y).toNat (by omega)]
  exact hs
theorem lw_V_reply {s : Int} (R : lw_V K r h z A zm Am) (G : z h 14 = 1 → sg_R K r (r h 13) σ z A) (hg : z h 14 = zm 34) (hx : la_rp ((z h 14 = 1 ∧ (y = 1 ∨ y = 2)) ∧ z (cw_g K (r h 9) (2 + (y - 1).toNat)) 2 = 1 ∧ 0 ≤ s ∧ s < z (cw_g K (r (r h 13) 1) (2 - y).toNat) 0) (A (r (cw_g K (r h 7) (y - 1).toNat) 0) s.toNat) a) (hy : la_rp ((zm 34 = 1 ∧ (y = 1 ∨ y = 2)) ∧ Am 51 (2 + (y - 1).toNat) = 1 ∧ 0 ≤ s ∧ s < σ 1 (2 - y).toNat) (Am 53 (10 * (2 - y).toNat + s.toNat)) a') : a = a' := by
  obtain ⟨-, -, f⟩ := R
  have fl : (y = 1 ∨ y = 2) → z (cw_g K (r h 9) (2 + (y - 1).toNat)) 2 = Am 51 (2 + (y - 1).toNat) := fun hp => (f (y - 1).toNat (by omega)).1
  refine la_rp_u ⟨fun q => ?_, fun q => ?_⟩ (fun q => ?_) hx hy
  · obtain ⟨⟨q1, q2⟩, q3, q4, q5⟩ := q
    exact ⟨⟨hg.symm.trans q1, q2⟩, (fl q2).symm.trans q3, q4, by rw [← ((G q1).2 (2 - y).toNat (by omega)).1]; exact q5⟩
  · obtain ⟨⟨q1, q2⟩, q3, q4, q5⟩ := q
    have hz : z h 14 = 1 := hg.trans q1
    exact ⟨⟨hz, q2⟩, (fl q2).trans q3, q4, by rw [((G hz).2 (2 - y).toNat (by omega)).1]; exact q5⟩
  · obtain ⟨⟨q1, q2⟩, q3, q4, q5⟩ := q
    have e1 : 1 - (y - 1).toNat = (2 - y).toNat := by omega
    have k := (f (y - 1).toNat (by omega)).2 ((fl q2).symm.trans q3) s.toNat (by rw [e1]; omega)
    rw [e1] at k
    exact k
theorem lw_V_start (R : lw_W K r h z A zm Am) (h4 : z h 14 = 0) (hf : ∀ t, t < 2 → z (cw_g K (r h 9) (2 + t)) 2 = 0) (mf : ∀ t, t < 2 → Am 51 (2 + t) = 0) : lw_V K r h z A zm Am := ⟨R, fun q => absurd (h4.symm.trans q) (by decide), fun t ht => ⟨by rw [hf t ht, mf t ht], fun k => by rw [mf t ht] at k; exact absurd k (by decide)⟩⟩
theorem wz_c7_hasSet {s : Nat} {i : Int} (hs : cw_O L K 7 s) (hz : 0 ≤ z s 0 ∧ z s 0 ≤ 10) (hi : hz_rI i) {Q : Int → Prop} (h1 : (0 ≤ i ∧ i < z s 0) → Q 1) (h0 : ¬ (0 ≤ i ∧ i < z s 0) → Q 0) : wp_c7_hasSet L K z r A s i Q := by
  refine ⟨hi, fun _ => ⟨by omega, h0 (by omega)⟩, fun c => ⟨hs, hi, by omega, fun _ => ⟨by omega, h0 (by omega)⟩, fun c2 => ⟨by omega, h1 (by omega)⟩⟩⟩
theorem wz_c11_reply {p i : Int} (I : ci_I L K r w ρ z A h) (hp : hz_rI p) (hi : hz_rI i) {Q : Int → Prop} (hQ : ∀ x, la_rp ((z h 14 = 1 ∧ (p = 1 ∨ p = 2)) ∧ z (cw_g K (r h 9) (2 + (p - 1).toNat)) 2 = 1 ∧ 0 ≤ i ∧ i < z (cw_g K (r (r h 13) 1) (2 - p).toNat) 0) (A (r (cw_g K (r h 7) (p - 1).toNat) 0) i.toNat) x → Q x) : wp_c11_reply L K z r A h p i Q := by
  have no : ¬ ((z h 14 = 1 ∧ (p = 1 ∨ p = 2)) ∧ z (cw_g K (r h 9) (2 + (p - 1).toNat)) 2 = 1 ∧ 0 ≤ i ∧ i < z (cw_g K (r (r h 13) 1) (2 - p).toNat) 0) → wp_c11_reply_24 L K z r A Q := fun n => hQ _ (Or.inr ⟨n, rfl⟩)
  obtain ⟨-, -, -, -, -, -, -, -, ⟨j1, j2, j3⟩, -, ⟨l1, l2, l3⟩, -⟩ := I.2.1
  refine ⟨I.2.1.1.1, wl_c11_isPlaying I hp (fun hp1 hg => ⟨by decide, fun c => absurd c (by decide), fun _ => ⟨l1, by omega, (l3 _ (by omega)).1, ?_, fun ck y ey => ⟨(I.2.2.2.2.2.1 hg).1, ?_⟩, fun ck => no ?_⟩⟩) (fun n => ⟨by decide, fun _ => no (fun q => n q.1), fun c => absurd rfl c⟩)⟩
  · have R := I.2.2.2.2.2.2.2.2.2.1 (2 + p - 1).toNat (by omega)
    omega
  · have R := I.2.2.2.2.2.2.2.2.2.1 (2 + p - 1).toNat (by omega)
    have e9 : (2 + p - 1).toNat = 2 + (p - 1).toNat := by omega
    rw [e9] at ck R
    obtain ⟨s1, s2, s3⟩ := ci_side (p := 2 - y) I (by omega) hg
    rw [show 2 - y - 1 = 1 - y by omega] at s3
    have eo : (1 - y).toNat = (2 - p).toNat := by omega
    refine ⟨s1, by omega, s3.1, wz_c7_hasSet s3.1 s3.2.1 hi (fun hi2 => ⟨by decide, fun c => absurd c (by decide), fun _ => ?_⟩) (fun hn => ⟨by decide, fun _ => hQ _ (Or.inr ⟨fun q => hn (by rw [eo]; exact q.2.2), rfl⟩), fun c => absurd rfl c⟩)⟩
    obtain ⟨⟨a1, a2, -, -⟩, -, -, -, -⟩ := I.1.2.2.2.2.2.1 _ (j3 y.toNat (by omega)).1
    have f2 := s3.2.1
    have ey9 : y.toNat = (p - 1).toNat := by omega
    refine ⟨j1, by omega, (j3 _ (by omega)).1, a1, by omega, ?_⟩
    rw [ey9]
    exact hQ _ (Or.inl ⟨⟨⟨hg, hp1⟩, by omega, by rw [← eo]; exact hi2⟩, rfl⟩)
  · have e9 : (2 + p - 1).toNat = 2 + (p - 1).toNat := by omega
    rw [e9] at ck
    intro q
    have q9 := q.2.1
    rw [ck] at q9
    exact absurd q9 (by decide)
end LW
theorem wz_reply {z : Nat → Int} {A σ : Nat → Nat → Int} {p s : Int} {Q : Int → (Nat → Int) → Prop} (hI : mi_I z A) (hp : hz_rI p) (hs : hz_rI s) (G : z 34 = 1 → mg_R (z 32).toNat A σ) (hQ : ∀ r t, mi_I (lp_U z 3 t) A → la_rp ((z 34 = 1 ∧ (p = 1 ∨ p = 2)) ∧ A 51 (2 + (p - 1).toNat) = 1 ∧ 0 ≤ s ∧ s < σ 1 (2 - p).toNat) (A 53 (10 * (2 - p).toNat + s.toNat)) r → Q r (lp_U z 3 t)) : wp_reply z A p s Q := by
  intro z1 hz1
  subst hz1
  have hI1 := mi_3 hI 0
  have G3 := mg_G3 G
  have e34 : lp_U z 3 0 34 = z 34 := lp_U_other (by decide)
  refine wl_isPlayer hI1 hp (fun hk h2 => ⟨by decide, fun c => absurd c (by decide), fun _ => ?_⟩) (fun n => ⟨by decide, fun _ => hQ _ 0 hI1 (Or.inr ⟨fun q => n (by rw [e34]; exact q.1), rfl⟩), fun c => absurd rfl c⟩)
  have h51 := hI1.2.2.2.2.2.2.2.2.1 (1 + p).toNat
  have e51 : (1 + p).toNat = 2 + (p - 1).toNat := by omega
  rw [e34] at hk
  refine ⟨⟨by omega, by omega⟩, by rcases h51 with h | h <;> rw [h] <;> exact ⟨by decide, by decide⟩, fun c => hQ _ 0 hI1 (Or.inr ⟨fun q => ?_, rfl⟩), fun c => wl_isSet (σ := σ) hI1 ⟨by omega, by omega⟩ hs G3 (fun yes => ⟨by decide, fun c => absurd c (by decide), fun _ => ?_⟩) (fun n => ⟨by decide, fun _ => hQ _ 0 hI1 (Or.inr ⟨fun q => n ?_, rfl⟩), fun c => absurd rfl c⟩)⟩
  · have q9 := q.2.1
    rw [← e51, c] at q9
    exact absurd q9 (by decide)
  · obtain ⟨y1, y2, y3, y4⟩ := yes
    have e2 : (3 - p - 1).toNat = (2 - p).toNat := by omega
    rw [e2] at y4
    have s10 := ((G hk).2.2 (2 - p).toNat (by omega)).1
    have ix : (10 * (2 - p) + s).toNat = 10 * (2 - p).toNat + s.toNat := by omega
    refine ⟨⟨by omega, by omega⟩, ?_⟩
    rw [ix]
    exact hQ _ 0 hI1 (Or.inl ⟨⟨⟨hk, h2⟩, by rw [← e51]; omega, y3, y4⟩, rfl⟩)
  · have e2 : (3 - p - 1).toNat = (2 - p).toNat := by omega
    exact ⟨by rw [e34]; exact q.1.1, by omega, q.2.2.1, by rw [e2]; exact q.2.2.2⟩
