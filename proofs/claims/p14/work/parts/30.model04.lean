-- 59.goOn
/-- the last open node is closed -/
theorem go_close {B C : Nat → Nat → Int} {d j : Nat} {c : Int} (hC : ∀ k, k ≠ 28 → C k = B k) (h : (B 38 j = 63 ∧ C 28 = B 28) ∨ (B 38 j ≠ 63 ∧ 0 ≤ B 40 j ∧ B 40 j + 1 ≤ 4 ∧ ∀ i, C 28 i = if i = 20 * d + (B 39 j).toNat then B 40 j + 1 else B 28 i)) (hG : go_G B d (j + 1) c (-1)) : go_G C d j c (-1) := by
  obtain ⟨hN, hS, hT, hP, hH, hZ, hE⟩ := hG
  have e : ∀ k, k ≠ 28 → C k = B k := hC
  have ec : ∀ p j, go_c C p j = go_c B p j := fun p j => go_c_congr p j (fun i _ => by rw [e 38 (by decide), e 39 (by decide)]; exact ⟨rfl, rfl⟩)
  refine ⟨fun i hi => ?_, fun p hp => ?_, fun i hi nd => ?_, fun i hi nd => ?_, fun i hi => ?_, fun p hp s hs h0 => ?_, fun e1 he1 => ?_⟩
  · rw [e 37 (by decide), e 38 (by decide), e 40 (by decide), e 41 (by decide), e 42 (by decide)]
    exact hN i (by omega)
  · obtain ⟨a, b⟩ := hS p hp
    rw [e 26 (by decide), e 27 (by decide), e 29 (by decide), e 30 (by decide), e 31 (by decide)]
    refine ⟨a, fun s hs => ?_⟩
    obtain ⟨b1, b2, b3⟩ := b s hs
    refine ⟨b1, ?_, b3⟩
    rcases h with ⟨-, h⟩ | ⟨-, h1, h2, h3⟩
    · rw [h]
      exact b2
    · rw [h3]
      split <;> omega
  · rw [e 38 (by decide)] at nd
    rw [e 39 (by decide), e 26 (by decide)]
    exact hT i (by omega) nd
  · rw [e 38 (by decide)] at nd
    rw [e 39 (by decide), e 29 (by decide), ec]
    exact hP i (by omega) nd
  · rw [e 38 (by decide), e 40 (by decide), e 43 (by decide), e 44 (by decide)]
    exact hH i (by omega)
  · rw [e 26 (by decide)] at hs
    rw [e 38 (by decide), e 39 (by decide)]
    have k0 : B 28 (20 * d + (10 * p + s)) = 0 ∧ (B 38 j ≠ 63 → B 39 j ≠ ((10 * p + s : Nat) : Int)) := by
      rcases h with ⟨h1, h2⟩ | ⟨h1, h2, h3, h4⟩
      · rw [h2] at h0
        exact ⟨h0, fun c => absurd h1 c⟩
      · rw [h4] at h0
        split at h0
        · omega
        · exact ⟨h0, fun _ => by omega⟩
    rcases hZ p hp s hs k0.1 with h1 | ⟨i, i1, i2, i3⟩
    · exact Or.inl h1
    · by_cases ei : i = j
      · rw [ei] at i2 i3
        exact absurd i3 (k0.2 i2)
      · exact Or.inr ⟨i, by omega, i2, i3⟩
  · rw [e 14 (by decide)] at he1
    rw [e 17 (by decide), e 18 (by decide), e 20 (by decide), e 21 (by decide), e 22 (by decide), e 23 (by decide), e 24 (by decide), e 38 (by decide), e 40 (by decide)]
    obtain ⟨a1, a2, a3, a4, a5⟩ := hE e1 he1
    refine ⟨a1, a2, a3, fun w w0 w1 => ?_, a5⟩
    obtain ⟨b1, b2, b3⟩ := a4 w w0 w1
    refine ⟨b1, b2, ?_⟩
    rcases b3 with b3 | ⟨i, i1, i2, i3⟩
    · exact Or.inl b3
    · by_cases ei : i = j
      · rw [ei] at i2 i3
        rcases h with ⟨h1, -⟩ | ⟨-, -, h1, -⟩
        · exact absurd h1 i2
        · omega
      · exact Or.inr ⟨i, by omega, i2, i3⟩
/-- one move more of the last open node -/
theorem go_step {B C : Nat → Nat → Int} {d j : Nat} {c : Int} (hC : ∀ k, k ≠ 40 → k ≠ 43 → k ≠ 44 → C k = B k) (h40 : ∀ i, C 40 i = if i = j then B 40 j + 1 else B 40 i) (hoth : ∀ i, i < j → ∀ q, q < 8 → C 43 (9 * i + q) = B 43 (9 * i + q) ∧ C 44 (9 * i + q) = B 44 (9 * i + q))
    (hnew : B 38 j = 63 → ∀ q : Nat, q < 8 → (q : Int) ≤ B 40 j + 1 → (1 ≤ C 44 (9 * j + q) ∧ C 44 (9 * j + q) ≤ 9999) ∧ (0 ≤ C 43 (9 * j + q) ∧ C 43 (9 * j + q) ≤ 9999)) (hG : go_G B d (j + 1) c (-1)) : go_G C d (j + 1) (c + 1) (-1) := by
  obtain ⟨hN, hS, hT, hP, hH, hZ, hE⟩ := hG
  have e : ∀ k, (k < 40 ∨ k = 41 ∨ k = 42) → C k = B k := fun k h => hC k (by omega) (by omega) (by omega)
  have ec : ∀ p j, go_c C p j = go_c B p j := fun p j => go_c_congr p j (fun i _ => by rw [e 38 (by decide), e 39 (by decide)]; exact ⟨rfl, rfl⟩)
  refine ⟨fun i hi => ?_, ?_, ?_, ?_, fun i hi dr q hq hq2 => ?_, ?_, fun e1 he1 => ?_⟩
  · obtain ⟨n1, n2, n3, n4⟩ := hN i hi
    rw [e 37 (by decide), e 38 (by decide), e 41 (by decide), e 42 (by decide), h40]
    refine ⟨n1, n2, ?_, n4⟩
    split
    · next ei =>
      rw [ei] at n3
      omega
    · omega
  · unfold go_S at *
    rw [e 26 (by decide), e 27 (by decide), e 28 (by decide), e 29 (by decide), e 30 (by decide), e 31 (by decide)]
    exact hS
  · unfold go_T at *
    rw [e 26 (by decide), e 38 (by decide), e 39 (by decide)]
    exact hT
  · unfold go_P at *
    simp only [ec]
    rw [e 29 (by decide), e 38 (by decide), e 39 (by decide)]
    exact hP
  · rw [e 38 (by decide)] at dr
    rw [h40] at hq2
    by_cases ei : i = j
    · rw [if_pos ei] at hq2
      rw [ei] at dr ⊢
      exact hnew dr q hq hq2
    · rw [if_neg ei] at hq2
      obtain ⟨o1, o2⟩ := hoth i (by omega) q hq
      rw [o1, o2]
      exact hH i hi dr q hq hq2
  · unfold go_Z at *
    rw [e 26 (by decide), e 28 (by decide), e 38 (by decide), e 39 (by decide)]
    exact hZ
  · rw [e 14 (by decide)] at he1
    rw [e 17 (by decide), e 18 (by decide), e 20 (by decide), e 21 (by decide), e 22 (by decide), e 23 (by decide), e 24 (by decide), e 38 (by decide)]
    obtain ⟨a1, a2, a3, a4, a5⟩ := hE e1 he1
    refine ⟨a1, a2, a3, fun w w0 w1 => ?_, a5⟩
    obtain ⟨b1, b2, b3⟩ := a4 w w0 w1
    refine ⟨b1, b2, ?_⟩
    rcases b3 with b3 | ⟨i, i1, i2, i3⟩
    · exact Or.inl b3
    · refine Or.inr ⟨i, i1, i2, ?_⟩
      rw [h40]
      split
      · next ei =>
        rw [ei] at i3
        omega
      · exact i3
theorem go_I_mono {t : Nat → Int} {d k k' : Nat} {z : Nat → Int} {C : Nat → Nat → Int} (h : k ≤ k') (hI : go_I t d z C k') : go_I t d z C k := by
  obtain ⟨o, q, a, b, c, r⟩ := hI
  exact ⟨o, q, a, b, by omega, r⟩
theorem go_W_mono {d : Nat} {A C : Nat → Nat → Int} {z z1 z' : Nat → Int} (h : ∀ q, q ≠ 35 → q ≠ 36 → q ≠ 45 → q ≠ 46 → q ≠ 47 → q ≠ 48 → z1 q = z q) (hW : go_W d A z1 z' C) : go_W d A z z' C :=
  ⟨fun q a b c e f g => (hW.1 q a b c e f g).trans (h q a b c e f g), hW.2⟩
-- 60.over
theorem lq_pp_range {A : Nat → Nat → Int} {g p : Nat} (n : Nat) (h : ∀ s, s < n → 0 ≤ A 28 (20 * g + (10 * p + s)) ∧ A 28 (20 * g + (10 * p + s)) ≤ 4) : 0 ≤ lq_pp A g p n ∧ lq_pp A g p n ≤ ((4 ^ n : Nat) : Int) := by
  induction n with
  | zero =>
    show (0 : Int) ≤ 1 ∧ (1 : Int) ≤ ((4 ^ 0 : Nat) : Int)
    decide
  | succ n ih =>
    obtain ⟨a, b⟩ := ih (fun s hs => h s (by omega))
    obtain ⟨c, d⟩ := h n (by omega)
    simp only [lq_pp]
    refine ⟨Int.mul_nonneg a c, ?_⟩
    rw [Nat.pow_succ, Int.natCast_mul]
    exact Int.mul_le_mul b d c (Int.le_trans a b)
/-- a draft that is whole is a game -/
theorem go_G_game {B C : Nat → Nat → Int} {d : Nat} {c : Int} (hC : go_C B d) (hG : go_G B d 0 c (-1)) (e : ∀ k, k ≠ 19 → k ≠ 25 → C k = B k) (h0 : lq_pp B d 0 (B 26 (2 * d + 0)).toNat ≤ 64) (h1 : lq_pp B d 1 (B 26 (2 * d + 1)).toNat ≤ 64) (h25 : 1 ≤ C 25 d ∧ C 25 d < 1000000000) (h19 : ∀ i : Nat, (i : Int) < B 14 d → -1000000000 < C 19 (400 * d + i) ∧ C 19 (400 * d + i) < 1000000000) (hd : d < 2) : mg_G C d ∧ mg_D C d := by
  obtain ⟨⟨c0, c1, c2⟩, c3, c4⟩ := hC
  obtain ⟨hN, hS, hT, hP, hH, hZ, hE⟩ := hG
  have ep : ∀ p n, lq_pp C d p n = lq_pp B d p n := fun p n => by
    induction n with
    | zero => rfl
    | succ n ih => simp only [lq_pp]; rw [ih, e 28 (by decide) (by decide)]
  have sets : ∀ p, p < 2 → mg_S C d p := fun p hp => by
    obtain ⟨a, b⟩ := hS p hp
    unfold mg_S
    rw [e 26 (by decide) (by decide), e 28 (by decide) (by decide)]
    refine ⟨a, fun s hs => ?_⟩
    obtain ⟨-, b2, -⟩ := b s hs
    have b3 : B 28 (20 * d + (10 * p + s)) ≠ 0 := fun h => by
      rcases hZ p hp s hs h with h | ⟨j, hj, -⟩
      · omega
      · omega
    omega
  refine ⟨⟨⟨by rw [e 14 (by decide) (by decide)]; omega, fun i hi => ?_⟩, sets 0 (by decide), sets 1 (by decide), ?_, ?_, h25⟩, fun i hi => ?_, fun i hi => ?_⟩
  · rw [e 14 (by decide) (by decide)] at hi
    obtain ⟨a1, a2, a3, a4, a5⟩ := hE i hi
    rw [e 20 (by decide) (by decide), e 21 (by decide) (by decide), e 22 (by decide) (by decide), e 23 (by decide) (by decide)]
    refine ⟨by omega, h19 i hi, fun w w0 w1 => ?_⟩
    obtain ⟨b1, b2, b3⟩ := a4 w w0 w1
    rcases b3 with b3 | ⟨j, hj, -⟩
    · omega
    · omega
  · rw [ep, e 26 (by decide) (by decide)]
    exact h0
  · rw [ep, e 26 (by decide) (by decide)]
    exact h1
  · rw [e 14 (by decide) (by decide)] at hi
    obtain ⟨a1, -⟩ := hE i hi
    rw [e 20 (by decide) (by decide), e 21 (by decide) (by decide)]
    omega
  · rw [e 14 (by decide) (by decide)] at hi
    obtain ⟨-, -, -, -, a5⟩ := hE i hi
    rw [e 20 (by decide) (by decide), e 21 (by decide) (by decide), e 22 (by decide) (by decide)]
    exact a5
-- 61.go
-- 62.read
theorem mg_G_49 {A B : Nat → Nat → Int} {g : Nat} (e : ∀ k, k ≠ 49 → k ≠ 50 → k ≠ 51 → B k = A k) (hG : mg_G A g) (hD : mg_D A g) : mg_G B g ∧ mg_D B g := by
  have ep : ∀ g p n, lq_pp B g p n = lq_pp A g p n := fun g p n => by
    induction n with
    | zero => rfl
    | succ n ih => simp only [lq_pp]; rw [ih, e 28 (by decide) (by decide) (by decide)]
  unfold mg_G mg_E mg_S mg_D at *
  rw [e 14 (by decide) (by decide) (by decide), e 19 (by decide) (by decide) (by decide), e 20 (by decide) (by decide) (by decide), e 21 (by decide) (by decide) (by decide), e 22 (by decide) (by decide) (by decide), e 23 (by decide) (by decide) (by decide), e 25 (by decide) (by decide) (by decide), e 26 (by decide) (by decide) (by decide), e 28 (by decide) (by decide) (by decide), ep, ep]
  exact ⟨hG, hD⟩