theorem cq_least {T B F f ga gb x y u v : Int} (hT : 0 ≤ T ∧ T ≤ B) (hF : 0 ≤ F ∧ F ≤ 9999) (hf : 1 ≤ f) (ga0 : 0 < ga) (gb0 : 0 < gb) (ex : x * ga = T) (ey : y * gb = F) (eu : u * gb = B) (ev : v * ga = f) : x * y ≤ 9999 * (u * v) := by
  have h1 : T * F ≤ B * 9999 := Int.mul_le_mul hT.2 hF.2 hF.1 (by omega)
  have h2 : B * 9999 * 1 ≤ B * 9999 * f := Int.mul_le_mul_of_nonneg_left hf (by omega)
  have h3 : T * F = x * y * (ga * gb) := by rw [← ex, ← ey]; grind
  have h4 : B * 9999 * f = 9999 * (u * v) * (ga * gb) := by rw [← eu, ← ev]; grind
  have h5 : x * y * (ga * gb) ≤ 9999 * (u * v) * (ga * gb) := by rw [← h3, ← h4]; omega
  exact Int.le_of_mul_le_mul_right h5 (Int.mul_pos ga0 gb0)
section CL
variable {L : List Nat} {K : Nat → cw_K} {r : Nat → Nat → Nat} {z A : Nat → Nat → Int} {w : Nat → Nat × Nat} {ρ : Nat → Nat} {z0 A0 : Nat → Nat → Int} {R : Nat} {P : Nat → Int → Prop} {O : Nat → Nat → Prop} {E : Int} {c : Nat → Int} {n : Nat}
/-- the word that is looked at begins behind place p of the text c, n -/
noncomputable def cq_w (L : List Nat) (K : Nat → cw_K) (r : Nat → Nat → Nat) (c : Nat → Int) (n : Nat) (z A : Nat → Nat → Int) (R p : Nat) : Prop := cl_T L K r z A (r R 2) ∧ (z (r R 2) 1).toNat = n ∧ A (r (r R 2) 0) = c ∧ ∃ b q : Nat, z (r R 2) 3 = (b : Int) ∧ z (r R 2) 5 = (q : Int) ∧ cl_R c n p (z (r R 2) 2) b q ∧ hz_rI (z (r R 2) 2) ∧ R ≠ r R 2 ∧ z R 1 = 0 ∧ z R 0 = -1
theorem cq_w_keep {p : Nat} {z' A' : Nat → Nat → Int} (h : cq_w L K r c n z A R p) (hz : z' (r R 2) = z (r R 2)) (hA : A' (r (r R 2) 0) = A (r (r R 2) 0)) (hR : z' R 0 = z R 0 ∧ z' R 1 = z R 1) : cq_w L K r c n z' A' R p := by
  unfold cq_w cl_T at h ⊢
  rw [hz, hA, hR.1, hR.2]
  exact h
theorem cq_w_b {p : Nat} (h : cq_w L K r c n z A R p) : (0 ≤ z (r R 2) 3 ∧ z (r R 2) 3 ≤ 4000) ∧ hz_rI (z (r R 2) 2) ∧ (0 ≤ z (r R 2) 4 ∧ z (r R 2) 4 ≤ 9999) := by
  obtain ⟨T, hn, hc, b, q, w3, w5, hR, hk, -⟩ := h
  have t4 := T.2.2.2.1
  have := hR.2.1
  exact ⟨by omega, hk, T.2.2.2.2.1⟩
end CL
