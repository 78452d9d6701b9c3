/-- character l of a number of k digits -/
noncomputable def nu_D (n : Int) (k l : Nat) : Int := 48 + n / 10 ^ (k - 1 - l) % 10
/-- what is printed of t / b: m characters -/
noncomputable def nu_P (t b m : Int) (C : Nat → Int) : Prop := ∃ s k : Nat, (s : Int) = (if t < 0 then 1 else 0) ∧ nu_k (t.natAbs : Int) k ∧ (t < 0 → C 0 = 45) ∧ (∀ l, l < k → C (s + l) = nu_D (t.natAbs : Int) k l) ∧ ((b = 1 ∧ m = (s : Int) + (k : Int)) ∨ (¬ b = 1 ∧ C (s + k) = 47 ∧ ∃ k2 : Nat, nu_k b k2 ∧ (∀ l, l < k2 → C (s + k + 1 + l) = nu_D b k2 l) ∧ m = (s : Int) + (k : Int) + 1 + (k2 : Int)))
theorem nu_P_u {t b m m' : Int} {C C' : Nat → Int} (h : nu_P t b m C) (h' : nu_P t b m' C') : m = m' ∧ ∀ i : Nat, (i : Int) < m → C i = C' i := by
  obtain ⟨s, k, hs, hk, h0, hd, ht⟩ := h
  obtain ⟨s', k', hs', hk', h0', hd', ht'⟩ := h'
  have es : s' = s := by omega
  have ek : k' = k := nu_k_u hk' hk
  subst es
  subst ek
  have low : ∀ i : Nat, i < s' + k' → C i = C' i := by
    intro i hi
    by_cases c : i < s'
    · have c2 : t < 0 := by
        apply Classical.byContradiction
        intro n
        rw [if_neg n] at hs
        omega
      rw [if_pos c2] at hs
      have : i = 0 := by omega
      rw [this, h0 c2, h0' c2]
    · have e : s' + (i - s') = i := by omega
      have e1 := hd (i - s') (by omega)
      have e2 := hd' (i - s') (by omega)
      rw [e] at e1 e2
      rw [e1, e2]
  rcases ht with ⟨a1, a2⟩ | ⟨a1, a2, k2, a3, a4, a5⟩
  · rcases ht' with ⟨b1, b2⟩ | ⟨b1, b2⟩
    · exact ⟨by omega, fun i hi => low i (by omega)⟩
    · exact absurd a1 b1
  · rcases ht' with ⟨b1, b2⟩ | ⟨b1, b2, l2, b3, b4, b5⟩
    · exact absurd b1 a1
    · have el := nu_k_u a3 b3
      subst el
      refine ⟨by omega, fun i hi => ?_⟩
      by_cases c : i < s' + k'
      · exact low i c
      · by_cases c2 : i = s' + k'
        · rw [c2, a2, b2]
        · have e : s' + k' + 1 + (i - (s' + k' + 1)) = i := by omega
          have e1 := a4 (i - (s' + k' + 1)) (by omega)
          have e2 := b4 (i - (s' + k' + 1)) (by omega)
          rw [e] at e1 e2
          rw [e1, e2]
theorem nu_div10 (n : Int) (j : Nat) : n / 10 ^ j / 10 = n / 10 ^ (j + 1) := by
  rw [Int.pow_succ, Int.ediv_ediv_of_nonneg (Int.le_of_lt (Int.pow_pos (by decide)))]
theorem nu_zero {n : Int} {j : Nat} (h0 : 0 ≤ n) (h : n / 10 ^ j = 0) : n < 10 ^ j := by
  have hp : (0 : Int) < 10 ^ j := Int.pow_pos (by decide)
  have h1 := Int.mul_ediv_add_emod n (10 ^ j)
  have h2 := Int.emod_lt_of_pos n hp
  rw [h, Int.mul_zero] at h1
  omega
theorem nu_some {n : Int} {j : Nat} (h0 : 0 ≤ n) (h : ¬ n / 10 ^ j = 0) : 10 ^ j ≤ n := by
  apply Classical.byContradiction
  intro c
  exact h (Int.ediv_eq_zero_of_lt h0 (by omega))
/-- turned round as far as s -/
noncomputable def nu_V (D : Nat → Int) (j s : Nat) (C : Nat → Int) (Y : Nat) : Prop := ∀ l, l < j → C (Y + l) = if l < s ∨ j ≤ l + s then D (j - 1 - l) else D l
theorem nu_V_step {D : Nat → Int} {j s : Nat} {C C' : Nat → Int} {Y : Nat} (h : nu_V D j s C Y) (hs : 2 * s + 1 < j) (h1 : C' (Y + s) = C (Y + (j - 1 - s))) (h2 : C' (Y + (j - 1 - s)) = C (Y + s)) (h3 : ∀ i, i ≠ Y + s → i ≠ Y + (j - 1 - s) → C' i = C i) : nu_V D j (s + 1) C' Y := by
  intro l hl
  by_cases c1 : l = s
  · subst c1
    rw [h1, h _ (by omega), if_neg (by omega), if_pos (by omega)]
  · by_cases c2 : l = j - 1 - s
    · rw [c2, h2, h _ (by omega), if_neg (by omega), if_pos (by omega), show j - 1 - (j - 1 - s) = s by omega]
    · rw [h3 _ (by omega) (by omega), h l hl]
      by_cases c3 : l < s ∨ j ≤ l + s
      · rw [if_pos c3, if_pos (by omega)]
      · rw [if_neg c3, if_neg (by omega)]
theorem nu_V_end {D : Nat → Int} {j s : Nat} {C : Nat → Int} {Y : Nat} (h : nu_V D j s C Y) (hs : ¬ 2 * s + 1 < j) : ∀ l, l < j → C (Y + l) = D (j - 1 - l) := by
  intro l hl
  rw [h l hl]
  by_cases c : l < s ∨ j ≤ l + s
  · rw [if_pos c]
  · rw [if_neg c, show j - 1 - l = l by omega]
section CR
variable {L : List Nat} {K : Nat → cw_K} {r : Nat → Nat → Nat} {z A : Nat → Nat → Int} {w : Nat → Nat × Nat} {ρ : Nat → Nat} {S : Nat → Prop} {R : Nat}
theorem wz_c0_divideBySmall {b : Nat} {v : Int} (h : cb_all L K r z A) (hO : cw_O L K 0 b) (hv : 0 < v ∧ v < 2147483648) {Q : Int → (Nat → Nat → Int) → (Nat → Nat → Int) → Prop} (hQ : ∀ (x : Int) (z' A' : Nat → Nat → Int), cb_all L K r z' A' → cb_Y r b z A z' A' → (0 ≤ x ∧ x < v) → cb_u r z A b = v * cb_u r z' A' b + x → z' b 1 ≤ z b 1 → Q x z' A') : wp_c0_divideBySmall L K z r A b v Q := by
  have hn := cb_n h.1 hO
  obtain ⟨⟨b1, b2⟩, b3, b4, b5⟩ := h.2 b hO
  obtain ⟨N, hN⟩ : ∃ N, N = (z b 1).toNat := ⟨_, rfl⟩
  refine ⟨hO, fun x e => ?_⟩
  intro P hP
  have key : ∀ (n : Nat) (A1 : Nat → Nat → Int) (y x : Int), (n : Int) ≤ z b 1 → x = (n : Int) - 1 → cb_S L K r A1 → (∀ a, a ≠ r b 0 → A1 a = A a) → (0 ≤ y ∧ y < v) → (∀ i, i < n → A1 (r b 0) i = A (r b 0) i) → cb_V (fun i => A (r b 0) (n + i)) (N - n) = v * cb_V (fun i => A1 (r b 0) (n + i)) (N - n) + y → P A1 y x := by
    intro n
    induction n with
    | zero =>
      intro A1 y x en ex hS1 hA1 hy hlow hV
      refine hP A1 y x ⟨by omega, fun _ => ⟨hO, ?_⟩, fun q => by omega⟩
      refine wq_c0_trim hS1 hO b1 b2 b3 (fun z2 hz hk hu hle hsg w wr we => ?_)
      have hY : cb_Y r b z A z2 A1 := ⟨hz, hA1⟩
      have ew : w = y := by omega
      refine hQ w z2 A1 (cb_all_of h hO hY hS1 hk) hY (by omega) ?_ hle
      rw [hu, ew]
      have e1 : cb_V (fun i => A (r b 0) (0 + i)) (N - 0) = cb_u r z A b := by
        unfold cb_u
        rw [← hN, Nat.sub_zero]
        exact cb_V_congr (fun i _ => by rw [Nat.zero_add])
      have e2 : cb_V (fun i => A1 (r b 0) (0 + i)) (N - 0) = cb_V (A1 (r b 0)) (z b 1).toNat := by
        rw [← hN, Nat.sub_zero]
        exact cb_V_congr (fun i _ => by rw [Nat.zero_add])
      rw [e1, e2] at hV
      exact hV
    | succ n ih =>
      intro A1 y x en ex hS1 hA1 hy hlow hV
      have exn : x = (n : Int) := by omega
      refine hP A1 y x ⟨by omega, fun q => by omega, fun _ => ⟨by omega, fun q => by omega, fun _ x7 x7r x7e => ⟨hO, ?_⟩⟩⟩
      refine wq_c0_digit hS1 ⟨b1, b2⟩ hO (by omega) (by omega) (fun d d0 d1 _ w wr we => ?_)
      have we' := we (Or.inr ⟨d0.1, d0.2, by omega⟩)
      have ed : d = A (r b 0) n % 4294967296 := by
        rw [d1 (by omega), exn, Int.toNat_natCast, hlow n (by omega)]
      have ew : w = y * 4294967296 + d := by omega
      have w0 : 0 ≤ w := by omega
      refine ⟨by omega, by omega, wr, by omega, fun t tr te => ⟨hn.1, by omega, fun A2 e2 => ⟨by omega, by omega, wr, by omega, fun y2 ey x2 ex2 => ?_⟩⟩⟩
      have ey' : y2 = w % v := by rw [ey, Int.tmod_eq_emod_of_nonneg w0]
      have qr : 0 ≤ w / v ∧ w / v < 4294967296 := ⟨Int.ediv_nonneg w0 (by omega), Int.ediv_lt_of_lt_mul hv.1 (by omega)⟩
      have et : t % 4294967296 = w / v := by
        rw [te, Int.tdiv_eq_ediv_of_nonneg w0, Int.emod_eq_of_lt qr.1 qr.2]
      have g2 : ∀ i, i ≠ n → A2 (r b 0) i = A1 (r b 0) i := fun i hi => by rw [e2, hz_s_i (by omega)]
      have g2n : A2 (r b 0) n = t := by
        rw [e2]
        have := hz_s_same (A := A1) (r b 0) x t
        rw [exn, Int.toNat_natCast] at this
        rw [exn]
        exact this
      have s1 : N - n = (N - (n + 1)) + 1 := by omega
      have eA : cb_V (fun i => A (r b 0) (n + i)) (N - n) = d + 4294967296 * cb_V (fun i => A (r b 0) (n + 1 + i)) (N - (n + 1)) := by
        rw [s1, cb_V_low, ed]
        congr 1
        exact congrArg _ (cb_V_congr (fun i _ => by rw [show n + (i + 1) = n + 1 + i by omega]))
      have eA2 : cb_V (fun i => A2 (r b 0) (n + i)) (N - n) = w / v + 4294967296 * cb_V (fun i => A1 (r b 0) (n + 1 + i)) (N - (n + 1)) := by
        rw [s1, cb_V_low]
        have q1 : A2 (r b 0) (n + 0) % 4294967296 = w / v := by rw [Nat.add_zero, g2n, et]
        rw [q1]
        congr 1
        exact congrArg _ (cb_V_congr (fun i _ => by rw [show n + (i + 1) = n + 1 + i by omega, g2 _ (by omega)]))
      refine ih A2 y2 x2 (by omega) (by omega) (by rw [e2]; exact cb_S_put hS1 hO tr) (fun a ha => by rw [e2, hz_s_a ha]; exact hA1 a ha) ?_ (fun i hi => by rw [g2 i (by omega)]; exact hlow i (by omega)) ?_
      · rw [ey']
        exact ⟨Int.emod_nonneg _ (by omega), Int.emod_lt_of_pos _ hv.1⟩
      · rw [eA, eA2, hV, ey', Int.mul_add v, Int.mul_left_comm v 4294967296]
        have q2 := Int.mul_ediv_add_emod w v
        omega
  refine key (z b 1).toNat A 0 x (by omega) (by omega) h.1 (fun _ _ => rfl) (by omega) (fun _ _ => rfl) ?_
  rw [hN, Nat.sub_self]
  simp [cb_V]
set_option maxHeartbeats 4000000 in
theorem wz_c4_writeSize {a x : Nat} {y : Int} (h : cJ L K r z A) (h1 : cg_1 L K r w ρ) (h4 : cg_4 L K r w ρ) (hO : cw_O L K 4 R) (hR : S (ρ R)) (ha : cw_O L K 0 a) (la : z a 1 ≤ 32) (hx : cw_A L K 2 x) (xn : cw_n K x < 2147483647) (hxS : S (ρ x)) (y0 : 0 ≤ y ∧ y + 310 ≤ (cw_n K x : Int)) {Q : Int → (Nat → Nat → Int) → (Nat → Nat → Int) → Prop}
    (hQ : ∀ (k : Nat) (z' A' : Nat → Nat → Int), cJ L K r z' A' → cF ρ S z A z' A' → (∀ q, q ≠ r R 3 → z' q = z q) → k ≤ 309 → nu_k (cb_u r z A a) k → (∀ l, l < k → A' x (y.toNat + l) = nu_D (cb_u r z A a) k l) → (∀ i, i < y.toNat → A' x i = A x i) → (∀ q, q ≠ x → q ≠ r (r R 3) 0 → A' q = A q) → Q (y + (k : Int)) z' A') : wp_c4_writeSize L K z r A R a x y Q := by
  obtain ⟨-, -, ⟨f1, f2, f3, f4⟩, -, -⟩ := h4 R hO
  have fS : S (ρ (r R 3)) := by rw [f4]; exact hR
  have la0 := (h.1.2 _ ha).1
  obtain ⟨n0, hn0⟩ : ∃ n, n = cb_u r z A a := ⟨_, rfl⟩
  have n0n : 0 ≤ n0 := by rw [hn0]; exact cb_u_nn _ _ _ _
  have n0b : n0 < 10 ^ 309 := by
    have q1 := nu_1024 (r := r) (A := A) (z := z) (b := a) (by omega)
    have q2 : (2 : Int) ^ 1024 ≤ 10 ^ 309 := by decide +kernel
    omega
  obtain ⟨Y, hY⟩ : ∃ Y, Y = y.toNat := ⟨_, rfl⟩
  have xd := cd_dig h.1 hx (by decide) _ f1
  refine ⟨hO, f1, wq_c0_copy h.1 f1 ha (by omega) (fun z1 A1 k1 hY1 hu1 _ hl1 hs1 => ?_)⟩
  have j1 := cJ_Y h f1 k1 hY1
  have F1 : cF ρ S z A z1 A1 := cF_Y h1 f1 fS hY1
  -- turned round
  have turn : ∀ (j : Nat) (z2 A2 : Nat → Nat → Int), j ≤ 309 → nu_k n0 j → cJ L K r z2 A2 → cF ρ S z A z2 A2 → (∀ q, q ≠ r R 3 → z2 q = z q) → (∀ q, q ≠ x → q ≠ r (r R 3) 0 → A2 q = A q) → (∀ i, i < Y → A2 x i = A x i) → (∀ l, l < j → A2 x (Y + l) = 48 + n0 / 10 ^ l % 10) → wp_c4_writeSize_66 L K z2 r A2 x y (y + (j : Int)) Q := by
    intro j z2 A2 hj hk j2 F2 o2 p2 lo2 d2 x6 e6
    have hk1 := hk.1
    intro P hP
    have key : ∀ (k s : Nat) (A3 : Nat → Nat → Int) (p q : Int), j - s = k → s ≤ j → p = y + (s : Int) → q = y + (j : Int) - 1 - (s : Int) → cJ L K r z2 A3 → cF ρ S z A z2 A3 → (∀ q, q ≠ x → q ≠ r (r R 3) 0 → A3 q = A q) → (∀ i, i < Y → A3 x i = A x i) → nu_V (fun l => 48 + n0 / 10 ^ l % 10) j s (A3 x) Y → P A3 p q := by
      intro k
      induction k with
      | zero =>
        intro s A3 p q hk' hs ep eq j3 F3 p3 lo3 v3
        refine hP A3 p q ⟨by omega, by omega, fun _ => ?_, fun c => by omega⟩
        have en := nu_V_end v3 (by omega)
        exact hQ j z2 A3 j3 F3 o2 hj (by rw [← hn0]; exact hk) (fun l hl => by rw [← hn0, ← hY]; exact en l hl) (by rw [← hY]; exact lo3) p3
      | succ k ih =>
        intro s A3 p q hk' hs ep eq j3 F3 p3 lo3 v3
        refine hP A3 p q ⟨by omega, by omega, fun c => ?_, fun c => ⟨hx, by omega, fun x7 e7 => ⟨by omega, by omega, (j3.2 x).2.2.1 hx _, fun A4 e4 => ⟨by omega, ?_, fun A5 e5 p' ep' q' eq' => ?_⟩⟩⟩⟩
        · have en := nu_V_end v3 (by omega)
          exact hQ j z2 A3 j3 F3 o2 hj (by rw [← hn0]; exact hk) (fun l hl => by rw [← hn0, ← hY]; exact en l hl) (by rw [← hY]; exact lo3) p3
        · rw [e7]; exact (j3.2 x).2.2.1 hx _
        · have j4 : cJ L K r z2 A4 := by
            rw [e4]
            exact cJ_st j3 hx (cd_dig j3.1 hx (by decide)) ⟨by omega, by omega, fun _ => (j3.2 x).2.2.1 hx _, by omega⟩
          have j5 : cJ L K r z2 A5 := by
            rw [e5]
            exact cJ_st j4 hx (cd_dig j4.1 hx (by decide)) ⟨by omega, by omega, fun _ => by rw [e7]; exact (j3.2 x).2.2.1 hx _, by omega⟩
          have F5 : cF ρ S z2 A3 z2 A5 := by
            rw [e5, e4]
            exact cF_trans (cF_st hxS) (cF_st hxS)
          have tp : p.toNat = Y + s := by omega
          have tq : q.toNat = Y + (j - 1 - s) := by omega
          have npq : Y + s ≠ Y + (j - 1 - s) := by omega
          have g1 : A5 x (Y + s) = A3 x (Y + (j - 1 - s)) := by
            rw [e5, hz_s_i (by rw [tq]; exact npq), e4, ← tp, hz_s_same, tq]
          have g2 : A5 x (Y + (j - 1 - s)) = A3 x (Y + s) := by
            rw [e5, ← tq, hz_s_same, e7, tp]
          have g3 : ∀ i, i ≠ Y + s → i ≠ Y + (j - 1 - s) → A5 x i = A3 x i := fun i i1 i2 => by
            rw [e5, hz_s_i (by rw [tq]; exact i2), e4, hz_s_i (by rw [tp]; exact i1)]
          refine ih (s + 1) A5 p' q' (by omega) (by omega) (by omega) (by omega) j5 (cF_trans F3 F5) (fun q1 n1 n2 => by rw [e5, hz_s_a n1, e4, hz_s_a n1]; exact p3 q1 n1 n2) (fun i hi => by rw [g3 i (by omega) (by omega)]; exact lo3 i hi) (nu_V_step v3 (by omega) g1 g2 g3)
    refine key j 0 A2 y x6 (by omega) (by omega) (by omega) (by omega) j2 F2 p2 lo2 (fun l hl => ?_)
    rw [if_neg (by omega)]
    exact d2 l hl
  intro P hP
  have key : ∀ (k j : Nat) (z2 A2 : Nat → Nat → Int) (v i : Int), 309 - j = k → j ≤ 309 → v = y + (j : Int) → i = y + (j : Int) → (1 < j → 10 ^ (j - 1) ≤ n0) → cb_u r z2 A2 (r R 3) = n0 / 10 ^ j → cJ L K r z2 A2 → cF ρ S z A z2 A2 → (∀ q, q ≠ r R 3 → z2 q = z q) → (∀ q, q ≠ x → q ≠ r (r R 3) 0 → A2 q = A q) → (∀ i, i < Y → A2 x i = A x i) → (∀ l, l < j → A2 x (Y + l) = 48 + n0 / 10 ^ l % 10) → P z2 A2 v i := by
    intro k
    induction k with
    | zero =>
      intro j z2 A2 v i hk hj ev ei hp hu j2 F2 o2 p2 lo2 d2
      have ej : j = 309 := by omega
      have zer : n0 / 10 ^ j = 0 := by rw [ej]; exact Int.ediv_eq_zero_of_lt n0n n0b
      have e0 := cb_u0 (j2.1.2 _ f1) j2.1.1 f1
      rw [hu, zer] at e0
      have kf := (j2.1.2 _ f1).1
      have stop : wp_c4_writeSize_66 L K z2 r A2 x y v Q := by
        rw [ev]
        exact turn j z2 A2 hj ⟨by omega, nu_zero n0n zer, hp⟩ j2 F2 o2 p2 lo2 d2
      refine hP z2 A2 v i ⟨hx, by omega, by omega, fun _ => stop, fun c => ⟨by omega, by omega, fun c2 => by omega, fun _ => ⟨hO, f1, by omega, fun _ => stop, fun c3 => absurd (e0.mpr rfl) (by omega)⟩⟩⟩
    | succ k ih =>
      intro j z2 A2 v i hk hj ev ei hp hu j2 F2 o2 p2 lo2 d2
      have kf := (j2.1.2 _ f1).1
      have e0 := cb_u0 (j2.1.2 _ f1) j2.1.1 f1
      have step : (1 ≤ j → ¬ n0 / 10 ^ j = 0) → wp_c4_writeSize_37 L K z2 r A2 R x y i P Q := by
        intro hnz
        refine ⟨hO, f1, wz_c0_divideBySmall j2.1 f1 (by omega) (fun v3 z3 A3 k3 hY3 hv3 hu3 hl3 x9 e9 => ⟨hx, by omega, by omega, fun A4 e4 x4 ex4 x5 ex5 => ?_⟩)⟩
        have j3 := cJ_Y j2 f1 k3 hY3
        have j4 : cJ L K r z3 A4 := by
          rw [e4]
          exact cJ_st j3 hx (cd_dig j3.1 hx (by decide)) ⟨by omega, by omega, fun _ => by omega, by omega⟩
        have A3x : A3 x = A2 x := hY3.2 x (fun e => xd e.symm)
        have ti : i.toNat = Y + j := by omega
        have u4 : cb_u r z3 A4 (r R 3) = cb_u r z3 A3 (r R 3) := (cb_uv (r := r) (z := z3) (A := A3) (z' := z3) (A' := A4) rfl (by rw [e4, hz_s_a xd])).1
        have dv : cb_u r z3 A3 (r R 3) = n0 / 10 ^ (j + 1) := by
          rw [← nu_div10, ← hu]
          omega
        have dm : v3 = n0 / 10 ^ j % 10 := by
          rw [← hu]
          omega
        refine ih (j + 1) z3 A4 x4 x5 (by omega) (by omega) (by omega) (by omega) (fun _ => ?_) (by rw [u4]; exact dv) j4 (cF_trans F2 (cF_trans (cF_Y h1 f1 fS hY3) ?_)) (fun q hq => by rw [hY3.1 q hq]; exact o2 q hq) (fun q n1 n2 => by rw [e4, hz_s_a n1, hY3.2 q n2]; exact p2 q n1 n2) (fun i' hi' => by rw [e4, hz_s_i (by omega), A3x]; exact lo2 i' hi') (fun l hl => ?_)
        · rw [Nat.add_sub_cancel]
          exact nu_some n0n (hnz (by omega))
        · rw [e4]
          exact cF_st hxS
        · by_cases c : l = j
          · rw [c, e4, ← ti, hz_s_same, e9, dm]
            have := Int.emod_nonneg (n0 / 10 ^ j) (show (10 : Int) ≠ 0 by decide)
            have := Int.emod_lt_of_pos (n0 / 10 ^ j) (show (0 : Int) < 10 by decide)
            omega
          · rw [e4, hz_s_i (by omega), A3x]
            exact d2 l (by omega)
      refine hP z2 A2 v i ⟨hx, by omega, by omega, fun c => by omega, fun c => ⟨by omega, by omega, fun c2 => step (fun c3 => by omega), fun c2 => ⟨hO, f1, by omega, fun c3 => ?_, fun c3 => step (fun _ q => ?_)⟩⟩⟩
      · have zer : n0 / 10 ^ j = 0 := by
          rw [← hu]
          exact e0.mp (by omega)
        rw [ev]
        exact turn j z2 A2 hj ⟨by omega, nu_zero n0n zer, hp⟩ j2 F2 o2 p2 lo2 d2
      · rw [hu] at e0
        have := e0.mpr q
        omega
  refine key 309 0 z1 A1 y y (by omega) (by omega) (by omega) (by omega) (fun c => by omega) ?_ j1 F1 (fun q hq => hY1.1 q hq) (fun q n1 n2 => hY1.2 q n2) (fun i _ => by rw [hY1.2 x (fun e => xd e.symm)]) (fun l hl => by omega)
  rw [hu1, Int.pow_zero, Int.ediv_one, hn0]
set_option maxHeartbeats 4000000 in
theorem wz_c4_write {x : Nat} (h : cJ L K r z A) (h1 : cg_1 L K r w ρ) (h4 : cg_4 L K r w ρ) (hO : cw_O L K 4 R) (hR : S (ρ R)) (hx : cw_A L K 2 x) (xn : 642 ≤ cw_n K x ∧ cw_n K x < 2147483647) (hxS : S (ρ x)) (hbp : 0 < cb_v r z A (r R 1)) {Q : Int → (Nat → Nat → Int) → (Nat → Nat → Int) → Prop}
    (hQ : ∀ (v : Int) (z' A' : Nat → Nat → Int), cJ L K r z' A' → cF ρ S z A z' A' → (∀ q, q ≠ r R 3 → z' q = z q) → (0 ≤ v ∧ v ≤ (cw_n K x : Int)) → nu_P (cb_v r z A (r R 0)) (cb_v r z A (r R 1)) v (A' x) → (∀ q, q ≠ x → q ≠ r (r R 3) 0 → A' q = A q) → Q v z' A') : wp_c4_write L K z r A R x Q := by
  obtain ⟨⟨t1, t2, t3, t4⟩, ⟨b1, b2, b3, b4⟩, ⟨f1, f2, f3, f4⟩, -, -⟩ := h4 R hO
  have bf : r R 1 ≠ r R 3 := cg_ne b3 f3 (by simp)
  have tf : r R 0 ≠ r R 3 := cg_ne t3 f3 (by simp)
  have xt := cd_dig h.1 hx (by decide) _ t1
  have xb := cd_dig h.1 hx (by decide) _ b1
  have dbf := cb_ne h.1.1 f1 b1 bf
  have kt := (h.1.2 _ t1)
  have kb := (h.1.2 _ b1)
  have kt1 := kt.1
  have kb1 := kb.1
  have e0 := cb_u0 kt h.1.1 t1
  have un := cb_u_nn r z A (r R 0)
  have ubn := cb_u_nn r z A (r R 1)
  have eb : cb_v r z A (r R 1) = cb_u r z A (r R 1) := by
    unfold cb_v at hbp ⊢
    by_cases c : z (r R 1) 2 = 1
    · rw [if_pos c] at hbp
      omega
    · rw [if_neg c]
  have main : ∀ (A1 : Nat → Nat → Int) (s : Nat), cJ L K r z A1 → cF ρ S z A z A1 → ((s : Int) = if cb_v r z A (r R 0) < 0 then 1 else 0) → (cb_v r z A (r R 0) < 0 → A1 x 0 = 45) → (∀ q, q ≠ x → A1 q = A q) → ((cb_v r z A (r R 0)).natAbs : Int) = cb_u r z A (r R 0) → wp_c4_write_19 L K z r A1 R x (s : Int) Q := by
    intro A1 s j1 F1 hs h0 p1 ab
    have s1 : s ≤ 1 := by
      by_cases c : cb_v r z A (r R 0) < 0
      · rw [if_pos c] at hs; omega
      · rw [if_neg c] at hs; omega
    have ut1 : cb_u r z A1 (r R 0) = cb_u r z A (r R 0) := (cb_uv (r := r) (z := z) (A := A) (z' := z) (A' := A1) rfl (p1 _ xt)).1
    refine ⟨hO, wz_c4_writeSize j1 h1 h4 hO hR t1 (by omega) hx xn.2 hxS (by omega) (fun k z2 A2 j2 F2 o2 hk nk d2 lo2 p2 => ⟨b1, ?_⟩)⟩
    rw [Int.toNat_natCast] at d2 lo2
    rw [ut1, ← ab] at d2 nk
    have wb := cb_uv (r := r) (z := z) (A := A) (z' := z2) (A' := A2) (o2 _ bf) (by rw [p2 _ xb dbf, p1 _ xb])
    refine wq_c0_isOne j2.1 b1 (fun i i0 i1 => ⟨by omega, fun c => ?_, fun c => ⟨hx, by omega, by omega, fun c2 => by omega, fun c2 => ⟨by omega, fun A3 e3 => ?_⟩⟩⟩)
    · refine hQ _ z2 A2 j2 (cF_trans F1 F2) o2 (by omega) ⟨s, k, hs, nk, fun q => ?_, d2, Or.inl ⟨?_, rfl⟩⟩ (fun q n1 n2 => by rw [p2 q n1 n2]; exact p1 q n1)
      · rw [if_pos q] at hs
        rw [lo2 0 (by omega)]
        exact h0 q
      · rw [← wb.2]
        exact i1.mp (by omega)
    · have j3 : cJ L K r z2 A3 := by
        rw [e3]
        exact cJ_st j2 hx (cd_dig j2.1 hx (by decide)) ⟨by omega, by omega, fun _ => by omega, by omega⟩
      have F3 : cF ρ S z2 A2 z2 A3 := by rw [e3]; exact cF_st hxS
      have kb3 := (j3.1.2 _ b1).1
      have u3 : cb_u r z2 A3 (r R 1) = cb_u r z A (r R 1) := by
        rw [(cb_uv (r := r) (z := z2) (A := A2) (z' := z2) (A' := A3) rfl (by rw [e3, hz_s_a xb])).1, wb.1]
      have tk : ((s : Int) + (k : Int)).toNat = s + k := by omega
      have tk1 : ((s : Int) + (k : Int) + 1).toNat = s + k + 1 := by omega
      refine wz_c4_writeSize j3 h1 h4 hO hR b1 (by omega) hx xn.2 hxS (by omega) (fun k2 z4 A4 j4 F4 o4 hk2 nk2 d4 lo4 p4 => ?_)
      rw [tk1] at d4 lo4
      rw [u3, ← eb] at d4 nk2
      have keep : ∀ i, i < s + k → A4 x i = A2 x i := fun i hi => by rw [lo4 i (by omega), e3, hz_s_i (by rw [tk]; omega)]
      refine hQ _ z4 A4 j4 (cF_trans (cF_trans (cF_trans F1 F2) F3) F4) (fun q hq => by rw [o4 q hq]; exact o2 q hq) (by omega) ⟨s, k, hs, nk, fun q => ?_, fun l hl => by rw [keep _ (by omega)]; exact d2 l hl, Or.inr ⟨fun q => ?_, ?_, k2, nk2, d4, rfl⟩⟩ (fun q n1 n2 => by rw [p4 q n1 n2, e3, hz_s_a n1, p2 q n1 n2]; exact p1 q n1)
      · rw [if_pos q] at hs
        rw [keep 0 (by omega), lo2 0 (by omega)]
        exact h0 q
      · rw [← wb.2] at q
        have := i1.mpr q
        omega
      · rw [lo4 _ (by omega), e3, ← tk, hz_s_same]
  have st := kt.2.1
  refine ⟨hO, t1, by omega, fun c => ?_, fun c => ⟨hx, by omega, fun A1 e1 => ?_⟩⟩
  · have ev : cb_v r z A (r R 0) = cb_u r z A (r R 0) := by
      unfold cb_v
      rw [if_neg (by omega)]
    refine main A 0 h (cF_refl _ _ _ _) (by rw [if_neg (by omega)]; rfl) (fun q => by omega) (fun _ _ => rfl) (by rw [ev]; omega)
  · have l0 : ¬ z (r R 0) 1 = 0 := fun q => c (kt.2.2.2 q)
    have up : ¬ cb_u r z A (r R 0) = 0 := fun q => l0 (e0.mpr q)
    have ev : cb_v r z A (r R 0) = - cb_u r z A (r R 0) := by
      unfold cb_v
      rw [if_pos (by omega)]
    refine main A1 1 ?_ ?_ (by rw [if_pos (by omega)]; rfl) (fun _ => by rw [e1]; exact hz_s_same _ _ _) (fun q hq => by rw [e1, hz_s_a hq]) (by rw [ev]; omega)
    · rw [e1]
      exact cJ_st h hx (cd_dig h.1 hx (by decide)) ⟨by omega, by omega, fun _ => by omega, by omega⟩
    · rw [e1]; exact cF_st hxS
end CR
