/-- how many decimal digits; least terms -/
theorem nu_10 {m n : Nat} (h : m ≤ n) : (10 : Int) ^ m ≤ 10 ^ n := by
  obtain ⟨k, rfl⟩ := Nat.exists_eq_add_of_le h
  rw [Int.pow_add]
  have h1 : (0 : Int) < 10 ^ m := Int.pow_pos (by decide)
  have h2 : (0 : Int) < 10 ^ k := Int.pow_pos (by decide)
  have : 10 ^ m * 1 ≤ (10 : Int) ^ m * 10 ^ k := Int.mul_le_mul_of_nonneg_left (by omega) (by omega)
  omega
noncomputable def nu_k (n : Int) (k : Nat) : Prop := 1 ≤ k ∧ n < 10 ^ k ∧ (1 < k → 10 ^ (k - 1) ≤ n)
theorem nu_k_u {n : Int} {k l : Nat} (h : nu_k n k) (h' : nu_k n l) : k = l := by
  obtain ⟨a1, a2, a3⟩ := h
  obtain ⟨b1, b2, b3⟩ := h'
  rcases Nat.lt_trichotomy k l with c | c | c
  · have h1 := b3 (by omega)
    have h2 := nu_10 (show k ≤ l - 1 by omega)
    omega
  · exact c
  · have h1 := a3 (by omega)
    have h2 := nu_10 (show l ≤ k - 1 by omega)
    omega
/-- t / b is n / d in least terms -/
noncomputable def nu_L (t b n d : Int) : Prop := 0 < b ∧ t * d = n * b ∧ Nat.gcd t.natAbs b.natAbs = 1
theorem nu_dvd {t b t' b' : Nat} (hg : Nat.gcd t b = 1) (h : t * b' = t' * b) : b ∣ b' :=
  Nat.Coprime.dvd_of_dvd_mul_left (show Nat.Coprime b t from (Nat.gcd_comm b t).trans hg) (by rw [h]; exact Nat.dvd_mul_left _ _)
theorem nu_L_u {t b t' b' n d : Int} (hd : 0 < d) (h : nu_L t b n d) (h' : nu_L t' b' n d) : t = t' ∧ b = b' := by
  obtain ⟨h1, h2, h3⟩ := h
  obtain ⟨k1, k2, k3⟩ := h'
  have e : t * b' = t' * b := by
    refine Int.eq_of_mul_eq_mul_left (show d ≠ 0 by omega) ?_
    have e1 : d * (t * b') = (t * d) * b' := by rw [Int.mul_comm t d, Int.mul_assoc]
    have e2 : d * (t' * b) = (t' * d) * b := by rw [Int.mul_comm t' d, Int.mul_assoc]
    rw [e1, e2, h2, k2, Int.mul_assoc, Int.mul_assoc, Int.mul_comm b b']
  have en : t.natAbs * b'.natAbs = t'.natAbs * b.natAbs := by rw [← Int.natAbs_mul, ← Int.natAbs_mul, e]
  have d1 := nu_dvd h3 en
  have d2 := nu_dvd k3 en.symm
  have eb : b.natAbs = b'.natAbs := Nat.dvd_antisymm d1 d2
  have ebb : b = b' := by omega
  refine ⟨?_, ebb⟩
  rw [← ebb] at e
  exact Int.eq_of_mul_eq_mul_right (show b ≠ 0 by omega) e
theorem nu_odd {b : Nat} (s : Nat) (hb : b % 2 = 1) : Nat.Coprime (2 ^ s) b := by
  refine Nat.Coprime.pow_left s ?_
  show Nat.gcd 2 b = 1
  rw [Nat.gcd_rec, hb]
  rfl
theorem nu_gcd2 {m b : Nat} (s : Nat) (hb : b % 2 = 1) : Nat.gcd (m * 2 ^ s) b = Nat.gcd m b := Nat.Coprime.gcd_mul_right_cancel m (nu_odd s hb)
/-- a step of the search: the greater one, made less by the other, without its twos -/
theorem nu_step {f s m : Nat} {t : Nat} (hf : f % 2 = 1) (hs : s % 2 = 1) (h : s < f) (e : f - s = m * 2 ^ t) (hm : m % 2 = 1) : Nat.gcd m s = Nat.gcd f s ∧ 1 ≤ t ∧ 2 * m ≤ f := by
  have ht : 1 ≤ t := by
    apply Classical.byContradiction
    intro c
    have : t = 0 := by omega
    rw [this, Nat.pow_zero, Nat.mul_one] at e
    omega
  refine ⟨?_, ht, ?_⟩
  · rw [← nu_gcd2 (m := m) t hs, ← e, Nat.gcd_sub_self_left (by omega)]
  · obtain ⟨q, rfl⟩ := Nat.exists_eq_add_of_le ht
    rw [Nat.pow_add] at e
    have h1 : 0 < 2 ^ q := Nat.pos_of_ne_zero (by intro c; have := Nat.pow_eq_zero.mp c; omega)
    have h2 : m * (2 ^ 1 * 2 ^ q) = 2 * m * 2 ^ q := by rw [Nat.pow_one, ← Nat.mul_assoc, Nat.mul_comm m 2]
    rw [h2] at e
    have h3 : 2 * m * 1 ≤ 2 * m * 2 ^ q := Nat.mul_le_mul_left _ h1
    omega
/-- twos in common, then what is odd in common: least terms -/
theorem nu_low {T B q g F S s t : Nat} {x y : Nat} (hT : 0 < T) (hB : 0 < B) (eT : T = x * 2 ^ q) (eB : B = y * 2 ^ q) (ho : x % 2 = 1 ∨ y % 2 = 1) (ex : x = F * 2 ^ s) (ey : y = S * 2 ^ t) (hF : F % 2 = 1) (hS : S % 2 = 1) (hg : g = Nat.gcd F S) : g ∣ x ∧ g ∣ y ∧ Nat.gcd (x / g) (y / g) = 1 ∧ 0 < g := by
  have gp : 0 < g := by rw [hg]; exact Nat.gcd_pos_of_pos_left _ (by omega)
  have e : Nat.gcd x y = g := by
    rcases ho with c | c
    · have : s = 0 := by
        apply Classical.byContradiction
        intro n
        obtain ⟨k, rfl⟩ : ∃ k, s = k + 1 := ⟨s - 1, by omega⟩
        rw [Nat.pow_succ, ← Nat.mul_assoc] at ex
        omega
      rw [this, Nat.pow_zero, Nat.mul_one] at ex
      rw [ex, ey, Nat.gcd_comm, nu_gcd2 t hF, Nat.gcd_comm, hg]
    · have : t = 0 := by
        apply Classical.byContradiction
        intro n
        obtain ⟨k, rfl⟩ : ∃ k, t = k + 1 := ⟨t - 1, by omega⟩
        rw [Nat.pow_succ, ← Nat.mul_assoc] at ey
        omega
      rw [this, Nat.pow_zero, Nat.mul_one] at ey
      rw [ey, ex, nu_gcd2 s hS, hg]
  refine ⟨by rw [← e]; exact Nat.gcd_dvd_left _ _, by rw [← e]; exact Nat.gcd_dvd_right _ _, ?_, gp⟩
  rw [← e]
  exact Nat.coprime_div_gcd_div_gcd (by rw [e]; exact gp)
