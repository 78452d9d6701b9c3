/-- the same fraction told otherwise -/
theorem nu_L_as {t b N D V C : Int} (h : nu_L t b N D) (hD : 0 < D) (e : N * C = D * V) : nu_L t b V C := by
  obtain ⟨h1, h2, h3⟩ := h
  refine ⟨h1, ?_, h3⟩
  refine Int.eq_of_mul_eq_mul_left (show D ≠ 0 by omega) ?_
  have e1 : D * (t * C) = (t * D) * C := by rw [Int.mul_comm t D, Int.mul_assoc]
  have e2 : D * (V * b) = (D * V) * b := (Int.mul_assoc _ _ _).symm
  rw [e1, e2, h2, ← e, Int.mul_right_comm]
section CI
variable {L : List Nat} {K : Nat → cw_K} {r r' : Nat → Nat → Nat} {z A : Nat → Nat → Int} {w : Nat → Nat × Nat} {ρ : Nat → Nat} {S : Nat → Prop} {h g R : Nat} {σ Am B : Nat → Nat → Int} {zm zm' : Nat → Int} {z' A' : Nat → Nat → Int} {y : Int}
/-- one number is new, the same on both sides: the numbers still agree -/
theorem nu_R_new {j : Nat} {V C : Int} (R : nu_R K r h z A Am) (hj : j < 4) (hk : z' (cw_g K (r h 9) j) 2 = 1) (hO : nc_O K r h j z A z' A') (hL : nu_L (cb_v r z' A' (r (cw_g K (r h 9) j) 0)) (cb_v r z' A' (r (cw_g K (r h 9) j) 1)) V C) (hC : 0 < C) (mk : B 51 j = 1) (m51 : ∀ i, i ≠ j → B 51 i = Am 51 i) (mO : mn_S (j : Int) Am B) (mL : nu_L (hb_v B (4231 + 2 * (j : Int))) (hb_v B (4231 + 2 * (j : Int) + 1)) V C) : nu_R K r h z' A' B := fun i hi => by
  by_cases e : i = j
  · rw [e]
    obtain ⟨u1, u2⟩ := nu_L_u hC hL mL
    exact ⟨by rw [hk, mk], fun _ => ⟨hL.1, u1, u2⟩⟩
  · obtain ⟨q1, q2, q3⟩ := hO i hi e
    obtain ⟨s1, s2⟩ := R i hi
    rw [q1, q2, q3, m51 i e, mO _ (by omega) (by omega) (by omega) (by omega), mO _ (by omega) (by omega) (by omega) (by omega)]
    exact ⟨s1, s2⟩
/-- what is common to all weights is above 0 -/
theorem nu_cm (hI : mi_I zm Am) (M : zm 34 = 1 → mg_R (zm 32).toNat Am σ) (hk : zm 34 = 1) : 1 ≤ sp_cm σ (σ 0 1).toNat := by
  have mg := hI.2.2.2.2.2.1 hk
  have q := mg.1.2.2.2.2.2.1
  rw [(M hk).1.2.2.1] at q
  exact q
/-- judge: the numbers agree -/
theorem nu_judge (hI : mi_I zm Am) (R : nu_R K r h z A Am) (W9 : z h 14 = 1 → wy_R K r h A Am) (G : z h 14 = 1 → sg_R K r (r h 13) σ z A) (M : zm 34 = 1 → mg_R (zm 32).toNat Am σ) (hg : z h 14 = zm 34) (hp : y = 1 ∨ y = 2) (hk : zm 34 = 1)
    (kx : z' (cw_g K (r h 9) (2 + (y - 1).toNat)) 2 = 1) (bx : rb_B (σ 1 (2 - y).toNat).toNat (σ (12 + (2 - y).toNat)) (fun xx => cg_d (((2 - y).toNat : Nat) : Int) * rv_V σ (2 - y).toNat (A (r (cw_g K (r h 4) (y - 1).toNat) 0)) (A (r (cw_g K (r h 4) (y - 1).toNat) 1)) xx) (A' (r (cw_g K (r h 7) (y - 1).toNat) 0)))
    (ox : nc_O K r h (2 + (y - 1).toNat) z A z' A') (lx : nu_L (cb_v r z' A' (r (cw_g K (r h 9) (2 + (y - 1).toNat)) 0)) (cb_v r z' A' (r (cw_g K (r h 9) (2 + (y - 1).toNat)) 1)) (rv_V σ (2 - y).toNat (A (r (cw_g K (r h 4) (y - 1).toNat) 0)) (A (r (cw_g K (r h 4) (y - 1).toNat) 1)) (A' (r (cw_g K (r h 7) (y - 1).toNat) 0))) (sp_cm σ (σ 0 1).toNat * wy_p (wy_f (A (r (cw_g K (r h 4) (y - 1).toNat) 0)) (A (r (cw_g K (r h 4) (y - 1).toNat) 1)) (σ (12 + (y - 1).toNat)) (fun _ => -1)) (σ 1 (y - 1).toNat).toNat))
    (fy : my_f (2 - y).toNat y Am B) (ey : my_E (2 - y).toNat (Am 26 (2 * (zm 32).toNat + (2 - y).toNat)).toNat (fun s => Am 28 (20 * (zm 32).toNat + (10 * (2 - y).toNat + s))) (rv_V σ (2 - y).toNat (A (r (cw_g K (r h 4) (y - 1).toNat) 0)) (A (r (cw_g K (r h 4) (y - 1).toNat) 1))) (Am 25 (zm 32).toNat * wy_p (wy_f (A (r (cw_g K (r h 4) (y - 1).toNat) 0)) (A (r (cw_g K (r h 4) (y - 1).toNat) 1)) (σ (12 + (1 - (2 - y).toNat))) (fun _ => -1)) (σ 1 (1 - (2 - y).toNat)).toNat) (Am 25 (zm 32).toNat * mf_P (Am 50) (fun _ => false) 80) y B) : nu_R K r h z' A' B := by
  have hz : z h 14 = 1 := hg.trans hk
  have Gx := G hz
  have Mx := M hk
  have W0 := W9 hz
  have sv := Gx.1.2.2
  have cm1 := nu_cm hI M hk
  have e25 : Am 25 (zm 32).toNat = sp_cm σ (σ 0 1).toNat := Mx.1.2.2.1
  have ex : 1 - (2 - y).toNat = (y - 1).toNat := by omega
  obtain ⟨k51, kk, k53, kB, N, kH, kN⟩ := ey
  have i51 : (1 + y).toNat = 2 + (y - 1).toNat := by omega
  have n1 := Mx.2.1 (2 - y).toNat (by omega)
  have s1 := Mx.2.2 (2 - y).toNat (by omega)
  rw [n1] at kB
  have same := rb_u bx (rb_B_congr (fun i hi => ((s1.2 i (by omega)).2.1).symm) (fun _ _ => rfl) kB)
  have eV : rv_V σ (2 - y).toNat (A (r (cw_g K (r h 4) (y - 1).toNat) 0)) (A (r (cw_g K (r h 4) (y - 1).toNat) 1)) (A' (r (cw_g K (r h 7) (y - 1).toNat) 0)) = rv_V σ (2 - y).toNat (A (r (cw_g K (r h 4) (y - 1).toNat) 0)) (A (r (cw_g K (r h 4) (y - 1).toNat) 1)) kk := rv_V_congr (by omega) sv same
  rw [ex, e25] at kN
  rw [e25] at kH
  have ej : ((2 + (y - 1).toNat : Nat) : Int) = 1 + y := by omega
  have Pp : 0 < wy_p (wy_f (A (r (cw_g K (r h 4) (y - 1).toNat) 0)) (A (r (cw_g K (r h 4) (y - 1).toNat) 1)) (σ (12 + (y - 1).toNat)) (fun _ => -1)) (σ 1 (y - 1).toNat).toNat := wy_p_pos (fun i hi => by
    have sx := (sv.1 (y - 1).toNat (by omega)).1
    have mi := ((sv.1 (y - 1).toNat (by omega)).2.2 i (by omega)).1
    unfold wy_f
    rw [if_pos rfl]
    have q9 := (wb_spec (b := fun q => A (r (cw_g K (r h 4) (y - 1).toNat) 1) (4 * i + q)) (n := (σ (12 + (y - 1).toNat) i).toNat) (fun k hk => (W0 (y - 1).toNat (by omega) (4 * i + k) (by omega)).1)).1
    omega)
  refine nu_R_new R (by omega) kx ox lx (Int.mul_pos (by omega) Pp) (by rw [← i51]; exact k51) (fun i hi => fy.1.1 i (by rw [i51]; exact hi)) (by rw [ej]; exact fy.2) ?_
  rw [ej, eV]
  exact nu_L_as (mf_H_L kH) kH.1.1 kN
/-- expect: the numbers agree -/
theorem nu_expect {V C0 : Int} (hI : mi_I zm Am) (R : nu_R K r h z A Am) (W9 : z h 14 = 1 → wy_R K r h A Am) (G : z h 14 = 1 → sg_R K r (r h 13) σ z A) (M : zm 34 = 1 → mg_R (zm 32).toNat Am σ) (hg : z h 14 = zm 34) (hk : zm 34 = 1)
    (kx : z' (cw_g K (r h 9) 1) 2 = 1) (ox : nc_O K r h 1 z A z' A') (hV : V = rx_V σ (fun t => A (r (cw_g K (r h 4) t) 0)) (fun t => A (r (cw_g K (r h 4) t) 1))) (hC0 : C0 = Am 25 (zm 32).toNat * (rx_1 σ (fun t => A (r (cw_g K (r h 4) t) 0)) (fun t => A (r (cw_g K (r h 4) t) 1)) 0 * rx_1 σ (fun t => A (r (cw_g K (r h 4) t) 0)) (fun t => A (r (cw_g K (r h 4) t) 1)) 1))
    (lx : nu_L (cb_v r z' A' (r (cw_g K (r h 9) 1) 0)) (cb_v r z' A' (r (cw_g K (r h 9) 1) 1)) (rx_V σ (fun t => A (r (cw_g K (r h 4) t) 0)) (fun t => A (r (cw_g K (r h 4) t) 1))) (sp_cm σ (σ 0 1).toNat * (rx_1 σ (fun t => A (r (cw_g K (r h 4) t) 0)) (fun t => A (r (cw_g K (r h 4) t) 1)) 0 * rx_1 σ (fun t => A (r (cw_g K (r h 4) t) 0)) (fun t => A (r (cw_g K (r h 4) t) 1)) 1)))
    (mO : mn_S 1 Am B) (m51 : ∀ i, i ≠ 1 → B 51 i = Am 51 i) (mk : B 51 1 = 1) (mN : ∃ N D, 0 < D ∧ mf_H B 4233 N D ∧ N * C0 = D * V) : nu_R K r h z' A' B := by
  have hz : z h 14 = 1 := hg.trans hk
  have W0 := W9 hz
  have sv := (G hz).1.2.2
  have cm1 := nu_cm hI M hk
  have e25 : Am 25 (zm 32).toNat = sp_cm σ (σ 0 1).toNat := (M hk).1.2.2.1
  obtain ⟨N, D, d0, dH, dN⟩ := mN
  have P0 : 0 < rx_1 σ (fun t => A (r (cw_g K (r h 4) t) 0)) (fun t => A (r (cw_g K (r h 4) t) 1)) 0 := rx_1_pos (by omega) sv (fun i hi => (W0 0 (by omega) i hi).1)
  have P1 : 0 < rx_1 σ (fun t => A (r (cw_g K (r h 4) t) 0)) (fun t => A (r (cw_g K (r h 4) t) 1)) 1 := rx_1_pos (by omega) sv (fun i hi => (W0 1 (by omega) i hi).1)
  refine nu_R_new (j := 1) R (by omega) kx ox lx (Int.mul_pos (by omega) (Int.mul_pos P0 P1)) mk m51 mO ?_
  rw [hC0, hV, e25] at dN
  exact nu_L_as (mf_H_L dH) d0 dN
/-- what the model's expect asks for -/
theorem nu_HX (hI : mi_I zm Am) (W9 : z h 14 = 1 → wy_R K r h A Am) (G : z h 14 = 1 → sg_R K r (r h 13) σ z A) (M : zm 34 = 1 → mg_R (zm 32).toNat Am σ) (hg : z h 14 = zm 34) (x : Nat → Int) : zm 34 = 1 → ∃ I : Nat → Nat → Int, mj_I Am (zm 32).toNat 2 (Am 25 (zm 32).toNat * (rx_1 σ (fun t => A (r (cw_g K (r h 4) t) 0)) (fun t => A (r (cw_g K (r h 4) t) 1)) 0 * rx_1 σ (fun t => A (r (cw_g K (r h 4) t) 0)) (fun t => A (r (cw_g K (r h 4) t) 1)) 1)) x I ∧ cS (fun e => I e (Am 21 (400 * (zm 32).toNat + e)).toNat) (Am 14 (zm 32).toNat).toNat = rx_V σ (fun t => A (r (cw_g K (r h 4) t) 0)) (fun t => A (r (cw_g K (r h 4) t) 1)) := by
  intro hk
  have hz : z h 14 = 1 := hg.trans hk
  have Gx := G hz
  have Mx := M hk
  have W0 := W9 hz
  have mg := hI.2.2.2.2.2.1 hk
  have hX : ∀ t, t < 2 → ∀ i, i < 40 → 1 ≤ (fun t => A (r (cw_g K (r h 4) t) 1)) t i ∧ (fun t => A (r (cw_g K (r h 4) t) 0)) t i * Am 50 (40 * t + i) = Am 49 (40 * t + i) * (fun t => A (r (cw_g K (r h 4) t) 1)) t i := fun t ht i hi => by
    have q := W0 t ht i hi
    exact ⟨q.1, q.2.2⟩
  exact (rx_model Mx.1.2 Mx.1.1.2.1 mg.1 mg.2.1 Gx.1.2.2 hX x).2
end CI
