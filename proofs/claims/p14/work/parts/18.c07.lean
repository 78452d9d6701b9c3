/-- products -/
noncomputable def cPm (f : Nat → Int) : Nat → Int
  | 0 => 1
  | n + 1 => cPm f n * f n
theorem cPm_4 {f : Nat → Int} {n : Nat} (h : ∀ i, i < n → 1 ≤ f i ∧ f i ≤ 4) : 1 ≤ cPm f n ∧ cPm f n ≤ 4 ^ n := by
  induction n with
  | zero => exact ⟨Int.le_refl 1, Int.le_refl 1⟩
  | succ n ih =>
    obtain ⟨h1, h2⟩ := ih (fun i hi => h i (by omega))
    have h3 := h n (by omega)
    simp only [cPm]
    refine ⟨?_, ?_⟩
    · have : 1 * 1 ≤ cPm f n * f n := Int.mul_le_mul h1 h3.1 (by omega) (by omega)
      omega
    · rw [Int.pow_succ]
      exact Int.mul_le_mul h2 h3.2 (by omega) (by omega)
theorem cPm_sum {f : Nat → Int} {n : Nat} (h : ∀ i, i < n → 1 ≤ f i ∧ f i ≤ 4) : ∃ e : Nat, cS f n = (n : Int) + (e : Int) ∧ (4 : Int) ^ e ≤ cPm f n * cPm f n * cPm f n := by
  induction n with
  | zero => exact ⟨0, rfl, by simp only [cPm]; decide⟩
  | succ n ih =>
    obtain ⟨e, he, hp⟩ := ih (fun i hi => h i (by omega))
    have h1 := (cPm_4 (f := f) (n := n) (fun i hi => h i (by omega))).1
    have h3 := h n (by omega)
    have p0 : 0 ≤ cPm f n * cPm f n * cPm f n := Int.mul_nonneg (Int.mul_nonneg (by omega) (by omega)) (by omega)
    have go : ∀ (k : Nat) (x : Int), f n = x → x = (k : Int) + 1 → (4 : Int) ^ k ≤ x * x * x → ∃ e : Nat, cS f (n + 1) = ((n + 1 : Nat) : Int) + (e : Int) ∧ (4 : Int) ^ e ≤ cPm f (n + 1) * cPm f (n + 1) * cPm f (n + 1) := by
      intro k x ex ek hk
      refine ⟨e + k, ?_, ?_⟩
      · simp only [cS]
        omega
      · simp only [cPm]
        rw [ex, Int.pow_add]
        have q := Int.mul_le_mul hp hk (Int.le_of_lt (Int.pow_pos (by decide))) p0
        have r1 : cPm f n * x * (cPm f n * x) * (cPm f n * x) = cPm f n * cPm f n * cPm f n * (x * x * x) := by grind
        rw [r1]
        exact q
    have c : f n = 1 ∨ f n = 2 ∨ f n = 3 ∨ f n = 4 := by omega
    rcases c with c | c | c | c
    · exact go 0 1 c rfl (by decide)
    · exact go 1 2 c rfl (by decide)
    · exact go 2 3 c rfl (by decide)
    · exact go 3 4 c rfl (by decide)
/-- 64 plans at most: 19 moves at most in ten sets -/
theorem cPm_19 {f : Nat → Int} {n : Nat} (hn : n ≤ 10) (h : ∀ i, i < n → 1 ≤ f i ∧ f i ≤ 4) (hp : cPm f n ≤ 64) : cS f n ≤ 19 := by
  obtain ⟨e, he, h4⟩ := cPm_sum h
  have h1 := (cPm_4 h).1
  have q1 : cPm f n * cPm f n ≤ 64 * 64 := Int.mul_le_mul hp hp (by omega) (by omega)
  have q2 : cPm f n * cPm f n * cPm f n ≤ 64 * 64 * 64 := Int.mul_le_mul q1 hp (by omega) (by omega)
  have e9 : e ≤ 9 := by
    apply Classical.byContradiction
    intro hc
    have q3 : (4 : Int) ^ 10 ≤ 4 ^ e := by
      rw [show e = 10 + (e - 10) by omega, Int.pow_add]
      have : 0 < (4 : Int) ^ (e - 10) := Int.pow_pos (by decide)
      have q4 : (4 : Int) ^ 10 * 1 ≤ 4 ^ 10 * 4 ^ (e - 10) := Int.mul_le_mul_of_nonneg_left (by omega) (by decide)
      omega
    have q5 : (4 : Int) ^ 10 = 1048576 := by decide
    omega
  omega
theorem cS_upd {f g : Nat → Int} {n i : Nat} {x : Int} (hi : i < n) (h : ∀ k, k < n → k ≠ i → g k = f k) (hx : g i ≤ f i + x) : cS g n ≤ cS f n + x := by
  induction n with
  | zero => omega
  | succ n ih =>
    simp only [cS]
    by_cases e : i = n
    · subst e
      have := cS_congr (f := g) (g := f) (n := i) (fun k hk => h k (by omega) (by omega))
      omega
    · have := ih (by omega) (fun k hk hne => h k (by omega) hne)
      have := h n (by omega) (fun q => e q.symm)
      omega
section CJ
variable {L : List Nat} {K : Nat → cw_K} {r : Nat → Nat → Nat} {z A : Nat → Nat → Int} {w : Nat → Nat × Nat} {ρ : Nat → Nat} {z0 A0 : Nat → Nat → Int} {R s : Nat} {E : Int}
theorem wq_c7_countPlansE (hs : cw_O L K 7 s) (h7 : cg_7 L K r w ρ) (hz : 0 ≤ z s 0 ∧ z s 0 ≤ 10) (hm : ∀ i : Nat, (i : Int) < z s 0 → 1 ≤ A (r s 2) i ∧ A (r s 2) i ≤ 4) {Q : Int → Prop} (hQ : hz_rI (cPm (A (r s 2)) (z s 0).toNat) → Q (cPm (A (r s 2)) (z s 0).toNat)) : wp_c7_countPlans L K z r A s Q := by
  obtain ⟨-, ⟨b1, b2, -, -⟩, -, -, -, -⟩ := h7 s hs
  have rng : ∀ n : Nat, (n : Int) ≤ z s 0 → 1 ≤ cPm (A (r s 2)) n ∧ cPm (A (r s 2)) n ≤ 1048576 := by
    intro n hn
    have q := cPm_4 (f := A (r s 2)) (n := n) (fun i hi => hm i (by omega))
    have p : (4 : Int) ^ n ≤ 1048576 := by
      have hn10 : n ≤ 10 := by omega
      have e : (1048576 : Int) = 4 ^ n * 4 ^ (10 - n) := by
        rw [← Int.pow_add, show n + (10 - n) = 10 by omega]
        decide
      have q1 : 0 < (4 : Int) ^ (10 - n) := Int.pow_pos (by decide)
      have q2 : (4 : Int) ^ n * 1 ≤ 4 ^ n * 4 ^ (10 - n) := Int.mul_le_mul_of_nonneg_left (by omega) (Int.le_of_lt (Int.pow_pos (by decide)))
      omega
    exact ⟨q.1, by omega⟩
  intro PP hPP
  have key : ∀ (k n : Nat) (v x : Int), n + (k : Int) = z s 0 → x = (n : Int) → v = cPm (A (r s 2)) n → PP v x := by
    intro k
    induction k with
    | zero =>
      intro n v x hk ex ev
      have en : n = (z s 0).toNat := by omega
      have := rng n (by omega)
      refine hPP v x ⟨hs, by omega, by omega, fun _ => ?_, fun c => by omega⟩
      rw [ev, en]
      rw [en] at this
      exact hQ (by omega)
    | succ k ih =>
      intro n v x hk ex ev
      refine hPP v x ⟨hs, by omega, by omega, fun c => by omega, fun _ => ⟨b1, by omega, fun v1 hv1 e1 x1 ex1 => ih (n + 1) v1 x1 (by omega) (by omega) ?_⟩⟩
      have q := rng (n + 1) (by omega)
      simp only [cPm] at q ⊢
      rw [show x.toNat = n by omega, ev] at e1
      generalize cPm (A (r s 2)) n * A (r s 2) n = t at *
      omega
  exact key (z s 0).toNat 0 1 0 (by omega) rfl rfl
theorem wq_c7_lineOf {d : Int} (hs : cw_O L K 7 s) (h7 : cg_7 L K r w ρ) (hd : d = -1 ∨ (0 ≤ d ∧ d / 512 < 10)) {Q : Int → Prop} (h0 : d = -1 → Q 0) (h1 : 0 ≤ d → Q (A (r s 6) (d / 512).toNat + d % 512)) : wp_c7_lineOf L K z r A s d Q := by
  obtain ⟨-, -, -, -, ⟨a1, a2, -, -⟩, -⟩ := h7 s hs
  refine ⟨by omega, fun c => ⟨hs, wq_c7_setOf (by omega) (fun d0 => ⟨a1, by omega, wq_c7_moveOf (by omega) (fun _ => h1 d0) d0⟩) (by omega)⟩, fun c => h0 c⟩
end CJ
