/-- the sum of n fractions f/g and what stands below it, as the model adds them -/
noncomputable def wy_b (g : Nat → Int) : Nat → Int
  | 0 => 1
  | n + 1 => wy_b g n * g n
noncomputable def wy_t (f g : Nat → Int) : Nat → Int
  | 0 => 0
  | n + 1 => wy_t f g n * g n + f n * wy_b g n
theorem wy_b_pos {g : Nat → Int} {n : Nat} (h : ∀ i, i < n → 1 ≤ g i) : 1 ≤ wy_b g n := by
  induction n with
  | zero => exact Int.le_refl _
  | succ n ih =>
    have h1 := ih (fun i hi => h i (by omega))
    have h2 := h n (by omega)
    have h3 : wy_b g n * 1 ≤ wy_b g n * g n := Int.mul_le_mul_of_nonneg_left h2 (by omega)
    show 1 ≤ wy_b g n * g n
    omega
/-- one share: x of M is t/b, which is f/g -/
theorem wy_share {f g t b x M : Int} (hb : 1 ≤ b) (hc : t * g = f * b) (hx : x * b = M * t) : f * M = g * x := by
  have e : (f * M) * b = (g * x) * b := by
    have e1 : (f * M) * b = M * (f * b) := by grind
    have e2 : (g * x) * b = g * (x * b) := by grind
    rw [e1, e2, hx, ← hc]
    grind
  exact Int.eq_of_mul_eq_mul_right (by omega) e
theorem wy_step {f g : Nat → Int} {n : Nat} {M x v : Int} (ih : wy_t f g n * M = wy_b g n * v) (h : f n * M = g n * x) : wy_t f g (n + 1) * M = wy_b g (n + 1) * (v + x) := by
  show (wy_t f g n * g n + f n * wy_b g n) * M = (wy_b g n * g n) * (v + x)
  have e1 : (wy_t f g n * g n + f n * wy_b g n) * M = (wy_t f g n * M) * g n + (f n * M) * wy_b g n := by grind
  rw [e1, ih, h]
  grind
theorem wy_one {f g : Nat → Int} {n : Nat} {M v : Int} (hM : 0 < M) (hg : ∀ i, i < n → 1 ≤ g i) (h : wy_t f g n * M = wy_b g n * v) : v = M ↔ wy_t f g n = wy_b g n := by
  have hp := wy_b_pos hg
  constructor
  · intro e
    rw [e] at h
    exact Int.eq_of_mul_eq_mul_right (by omega) h
  · intro e
    rw [e, Int.mul_comm, Int.mul_comm (wy_b g n) v] at h
    exact (Int.eq_of_mul_eq_mul_right (by omega) h).symm
section CY
variable {L : List Nat} {K : Nat → cw_K} {r : Nat → Nat → Nat} {z A : Nat → Nat → Int} {w : Nat → Nat × Nat} {ρ : Nat → Nat} {S : Nat → Prop} {y s : Nat}
theorem wl_c11_gcd {a b : Int} (ha : 0 ≤ a ∧ a < 9223372036854775808) (hb : 0 ≤ b ∧ b < 9223372036854775808) (hp : 0 < a ∨ 0 < b) {Q : Int → Prop} (hQ : ∀ x : Int, 0 < x → x < 9223372036854775808 → x ∣ a → x ∣ b → Q x) : wp_c11_gcd L K z r A a b Q := by
  refine ⟨by omega, by omega, fun x ex => ⟨by omega, by omega, fun y ey => ?_⟩⟩
  have ex : x = a := by omega
  have ey : y = b := by omega
  subst ex ey
  intro P hP
  have fin : ∀ (n : Nat) (u i : Int), n ≤ 200 → i = (n : Int) → 0 < u → u < 9223372036854775808 → (∀ d : Int, d ∣ u → d ∣ 0 → d ∣ x ∧ d ∣ y) → P u 0 i := by
    intro n u i hn ei u0 u1 hd
    obtain ⟨d1, d2⟩ := hd u (Int.dvd_refl u) (Int.dvd_zero u)
    exact hP u 0 i ⟨by omega, fun _ => hQ u u0 u1 d1 d2, fun _ => ⟨by omega, fun _ => hQ u u0 u1 d1 d2, fun c => absurd rfl c⟩⟩
  have key : ∀ (k n : Nat) (u v i : Int), n + k ≤ 200 → i = (n : Int) → 0 ≤ v → v ≤ u → 0 < u → u < 9223372036854775808 → u * v < 2 ^ k → (∀ d : Int, d ∣ u → d ∣ v → d ∣ x ∧ d ∣ y) → P u v i := by
    intro k
    induction k with
    | zero =>
      intro n u v i hk ei v0 hvu u0 u1 huv hd
      have e : v = 0 := by
        rcases Int.lt_or_eq_of_le v0 with h | h
        · have h1 : 1 * 1 ≤ u * v := Int.mul_le_mul (by omega) (by omega) (by decide) (by omega)
          have h2 : u * v < 1 := huv
          omega
        · exact h.symm
      subst e
      exact fin n u i (by omega) ei u0 u1 hd
    | succ k ih =>
      intro n u v i hk ei v0 hvu u0 u1 huv hd
      by_cases e : v = 0
      · subst e
        exact fin n u i (by omega) ei u0 u1 hd
      · have h1 := Int.emod_nonneg u (show v ≠ 0 from e)
        have h2 := Int.emod_lt_of_pos u (show 0 < v by omega)
        have h3 := Int.mul_ediv_add_emod u v
        have q1 : 1 ≤ u / v := Int.le_ediv_of_mul_le (by omega) (by omega)
        refine hP u v i ⟨by omega, fun c => by omega, fun _ => ⟨by omega, fun c => absurd c e, fun c => ⟨c, by omega, by omega, fun t et j ej => ?_⟩⟩⟩
        rw [Int.tmod_eq_emod_of_nonneg (by omega)] at et
        subst et
        refine ih (n + 1) v (u % v) j (by omega) (by omega) h1 (by omega) (by omega) (by omega) ?_ (fun d d1 d2 => hd d ?_ d1)
        · have h4 : v * 1 ≤ v * (u / v) := Int.mul_le_mul_of_nonneg_left q1 v0
          have h5 : 2 * (u % v) ≤ u := by omega
          have h6 : v * (2 * (u % v)) ≤ v * u := Int.mul_le_mul_of_nonneg_left h5 v0
          have h7 : v * (2 * (u % v)) = 2 * (v * (u % v)) := Int.mul_left_comm _ _ _
          have h8 : v * u = u * v := Int.mul_comm _ _
          have h9 : (2 : Int) ^ (k + 1) = 2 ^ k * 2 := Int.pow_succ ..
          omega
        · have h4 := Int.dvd_add (Int.dvd_trans d1 (Int.dvd_mul_right v (u / v))) d2
          rwa [h3] at h4
  have prod : ∀ u v : Int, 0 ≤ u → u < 9223372036854775808 → 0 ≤ v → v < 9223372036854775808 → u * v < 2 ^ 126 := by
    intro u v u0 u1 v0 v1
    have h1 : u * v ≤ 9223372036854775807 * 9223372036854775807 := Int.mul_le_mul (by omega) (by omega) v0 (by decide)
    have h2 : (9223372036854775807 : Int) * 9223372036854775807 < 2 ^ 126 := by decide +kernel
    exact Int.lt_of_le_of_lt h1 h2
  by_cases c : 0 < x ∧ y ≤ x
  · exact key 126 0 x y 0 (by omega) rfl hb.1 c.2 c.1 ha.2 (prod x y ha.1 ha.2 hb.1 hb.2) (fun d d1 d2 => ⟨d1, d2⟩)
  · have hlt : x < y := by omega
    refine hP x y 0 ⟨by omega, fun c => by omega, fun _ => ⟨by omega, fun c => by omega, fun c => ⟨c, by omega, by omega, fun t et j ej => ?_⟩⟩⟩
    rw [Int.tmod_eq_emod_of_nonneg ha.1, Int.emod_eq_of_lt ha.1 hlt] at et
    subst et
    exact key 126 1 y t j (by omega) (by omega) ha.1 (by omega) (by omega) hb.2 (prod y t hb.1 hb.2 ha.1 ha.2) (fun d d1 d2 => ⟨d2, d1⟩)
theorem wl_c11_lcm {a b M : Int} (ha : 0 < a ∧ a < 9223372036854775808) (hb : 0 < b ∧ b < 9223372036854775808) (hab : a * b ≤ M) (hM : M < 9223372036854775808) {Q : Int → Prop} (hQ : ∀ x : Int, 0 < x → x ≤ M → a ∣ x → b ∣ x → Q x) : wp_c11_lcm L K z r A a b Q := by
  refine wl_c11_gcd (by omega) (by omega) (by omega) (fun g g0 g1 ga gb => wq_c11_quotient (by omega) (by omega) (fun q q1 _ q3 _ x xr xe => ?_))
  have q3 := q3 g0
  have q1 := q1 (by omega)
  rw [Int.tdiv_eq_ediv_of_nonneg (by omega)] at q3
  have q2 : q * g = a := by rw [q3]; exact Int.ediv_mul_cancel ga
  have qp : 0 < q := by
    rcases Int.lt_or_eq_of_le q1.1 with h | h
    · exact h
    · rw [← h] at q2; omega
  have h1 : q * b ≤ a * b := Int.mul_le_mul_of_nonneg_right q1.2 (by omega)
  have h0 : 0 < q * b := Int.mul_pos qp hb.1
  have ex : x = q * b := by
    generalize q * b = t at *
    omega
  obtain ⟨b', eb⟩ := gb
  refine hQ x (by omega) (by omega) ⟨b', ?_⟩ ⟨q, ?_⟩
  · rw [ex, eb, ← Int.mul_assoc, q2]
  · rw [ex, Int.mul_comm]
theorem wl_c9_bottomOf {i : Int} (h7 : cg_7 L K r w ρ) (h9 : cg_9 L K r w ρ) (hF : cs_F L K r z A s) (hW : cy_W L K r A y) (hp : ∀ i, i < 40 → 1 ≤ A (r y 1) i) (hi : 0 ≤ i ∧ i < z s 0) {Q : Int → Prop} (hQ : ∀ x : Int, 0 < x → x ≤ 10000000000000000 → (∀ j : Nat, (j : Int) < A (r s 2) i.toNat → A (r y 1) (4 * i.toNat + j) ∣ x) → Q x) : wp_c9_bottomOf L K z r A y s i Q := by
  obtain ⟨hs, f2, f3, f4⟩ := hF
  obtain ⟨-, ⟨m1, m2, m3, m4⟩, -, -, -, -⟩ := h7 s hs
  obtain ⟨hO, hc⟩ := hW
  obtain ⟨-, ⟨b1, b2, b3, b4⟩, -⟩ := h9 y hO
  have fi := (f4 i.toNat (by omega)).1
  intro P hP
  have key : ∀ (k n : Nat) (x j : Int), n + (k : Int) = A (r s 2) i.toNat → j = (n : Int) → 0 < x → x ≤ 10000 ^ n → (∀ q, q < n → A (r y 1) (4 * i.toNat + q) ∣ x) → P x j := by
    intro k
    induction k with
    | zero =>
      intro n x j hk ej x0 x1 hd
      have : (10000 : Int) ^ n ≤ 10000000000000000 := by
        have : n = 1 ∨ n = 2 ∨ n = 3 ∨ n = 4 := by omega
        rcases this with rfl | rfl | rfl | rfl <;> decide
      exact hP x j ⟨hs, m1, by omega, by omega, by omega, fun _ => hQ x x0 (by omega) (fun q hq => hd q (by omega)), fun c => by omega⟩
    | succ k ih =>
      intro n x j hk ej x0 x1 hd
      have ix : (i * 4 + j).toNat = 4 * i.toNat + n := by omega
      have hb := hc (i * 4 + j).toNat (by omega)
      have hb1 := hp (i * 4 + j).toNat (by omega)
      have p4 : (10000 : Int) ^ (n + 1) ≤ 10000000000000000 := by
        have : n = 0 ∨ n = 1 ∨ n = 2 ∨ n = 3 := by omega
        rcases this with rfl | rfl | rfl | rfl <;> decide
      have pn : (10000 : Int) ^ (n + 1) = 10000 ^ n * 10000 := Int.pow_succ ..
      refine hP x j ⟨hs, m1, by omega, by omega, by omega, fun c => by omega, fun _ => ⟨hO, b1, by omega, by omega, wl_c11_lcm (M := 10000 ^ (n + 1)) (by omega) (by omega) ?_ (by omega) (fun v v0 v1 va vb j1 ej1 => ih (n + 1) v j1 (by omega) (by omega) v0 v1 (fun q hq => ?_))⟩⟩
      · rw [pn]
        exact Int.mul_le_mul x1 (by omega) (by omega) (by omega)
      · by_cases e : q = n
        · rw [e, ← ix]; exact vb
        · exact Int.dvd_trans (hd q (by omega)) va
  exact key (A (r s 2) i.toNat).toNat 0 1 0 (by omega) rfl (by decide) (by decide) (fun q hq => by omega)
theorem wl_c9_topOf {i m b : Int} (h9 : cg_9 L K r w ρ) (hW : cy_W L K r A y) (hp : ∀ i, i < 40 → 1 ≤ A (r y 1) i) (hi : 0 ≤ i ∧ i < 10) (hm : 0 ≤ m ∧ m < 4) (hb : 0 ≤ b ∧ b ≤ 10000000000000000) (hd : A (r y 1) (i * 4 + m).toNat ∣ b) {Q : Int → Prop} (hQ : ∀ x : Int, 0 ≤ x → x ≤ b → x * A (r y 1) (i * 4 + m).toNat = b * A (r y 0) (i * 4 + m).toNat → Q x) : wp_c9_topOf L K z r A y i m b Q := by
  obtain ⟨hO, hc⟩ := hW
  obtain ⟨⟨a1, a2, a3, a4⟩, ⟨b1, b2, b3, b4⟩, -⟩ := h9 y hO
  intro x xr xe
  have ex : x = i * 4 + m := by omega
  rw [← ex] at hd hQ
  have hx := hc x.toNat (by omega)
  have hx1 := hp x.toNat (by omega)
  refine ⟨hO, b1, by omega, by omega, wq_c11_quotient (by omega) (by omega) (fun q q1 _ q3 q4 => ⟨a1, by omega, by omega, fun v vr ve => ?_⟩)⟩
  have q1 := q1 hb.1
  have e := q3 (by omega)
  rw [Int.tdiv_eq_ediv_of_nonneg hb.1] at e
  have qb : q * A (r y 1) x.toNat = b := by rw [e]; exact Int.ediv_mul_cancel hd
  have t0 : 0 ≤ q * A (r y 0) x.toNat := Int.mul_nonneg q1.1 hx.1
  have t1 : q * A (r y 0) x.toNat ≤ b := by
    have h1 : q * A (r y 0) x.toNat ≤ q * A (r y 1) x.toNat := Int.mul_le_mul_of_nonneg_left hx.2.1 q1.1
    omega
  have ev : v = q * A (r y 0) x.toNat := by
    generalize q * A (r y 0) x.toNat = t at *
    omega
  refine hQ v (by omega) (by omega) ?_
  rw [ev, ← qb]
  grind
/-- way y is good for side s: the chances f/g at each set are 1 together -/
noncomputable def wy_G (f g : Nat → Int) (mv : Nat → Int) (n : Int) : Prop := ∀ i : Nat, (i : Int) < n → wy_t (fun j => f (4 * i + j)) (fun j => g (4 * i + j)) (mv i).toNat = wy_b (fun j => g (4 * i + j)) (mv i).toNat
theorem wl_c9_isGood {f g : Nat → Int} (h7 : cg_7 L K r w ρ) (h9 : cg_9 L K r w ρ) (hF : cs_F L K r z A s) (hW : cy_W L K r A y) (hp : ∀ i, i < 40 → 1 ≤ A (r y 1) i) (hg : ∀ i, i < 40 → 1 ≤ g i) (hc9 : ∀ i, i < 40 → A (r y 0) i * g i = f i * A (r y 1) i) {Q : Int → Prop} (h1 : wy_G f g (A (r s 2)) (z s 0) → Q 1) (h0 : ¬ wy_G f g (A (r s 2)) (z s 0) → Q 0) : wp_c9_isGood L K z r A y s Q := by
  have hF0 := hF
  have hW0 := hW
  obtain ⟨hs, f2, f3, f4⟩ := hF
  obtain ⟨-, ⟨m1, m2, m3, m4⟩, -, -, -, -⟩ := h7 s hs
  obtain ⟨hO, hc⟩ := hW
  intro P hP
  have key : ∀ (k n : Nat) (x : Int), n + (k : Int) = z s 0 → x = (n : Int) → (∀ i : Nat, i < n → wy_t (fun j => f (4 * i + j)) (fun j => g (4 * i + j)) (A (r s 2) i).toNat = wy_b (fun j => g (4 * i + j)) (A (r s 2) i).toNat) → P x := by
    intro k
    induction k with
    | zero =>
      intro n x hk ex hgd
      exact hP x ⟨hs, by omega, by omega, fun _ => h1 (fun i hi => hgd i (by omega)), fun c => by omega⟩
    | succ k ih =>
      intro n x hk ex hgd
      have fn := (f4 n (by omega)).1
      have e9 : x.toNat = n := by omega
      refine hP x ⟨hs, by omega, by omega, fun c => by omega, fun _ => ⟨hO, wl_c9_bottomOf h7 h9 hF0 hW0 hp (by omega) (fun b b0 b1 hd => ?_)⟩⟩
      rw [e9] at hd
      intro P2 hP2
      have inner : ∀ (k2 j : Nat) (v i : Int), j + (k2 : Int) = A (r s 2) n → i = (j : Int) → 0 ≤ v → v ≤ 10000000000000000 * j → wy_t (fun q => f (4 * n + q)) (fun q => g (4 * n + q)) j * b = wy_b (fun q => g (4 * n + q)) j * v → P2 v i := by
        intro k2
        induction k2 with
        | zero =>
          intro j v i hj ei v0 v1 hv
          have ej : (A (r s 2) n).toNat = j := by omega
          have iff9 := wy_one b0 (fun q hq => hg (4 * n + q) (by omega)) hv
          refine hP2 v i ⟨hs, m1, by omega, by omega, by rw [e9]; omega, fun _ => ⟨by omega, by omega, fun c x1 e1 => ih (n + 1) x1 (by omega) (by omega) (fun q hq => ?_), fun c => h0 (fun hG => c (iff9.mpr ?_))⟩, fun c => ?_⟩
          · by_cases en : q = n
            · rw [en, ej]; exact iff9.mp c
            · exact hgd q (by omega)
          · have := hG n (by omega)
            rw [ej] at this
            exact this
          · rw [e9] at c; omega
        | succ k2 ih2 =>
          intro j v i hj ei v0 v1 hv
          have ix : (x * 4 + i).toNat = 4 * n + j := by omega
          refine hP2 v i ⟨hs, m1, by omega, by omega, by rw [e9]; omega, fun c => ?_, fun _ => ⟨hO, wl_c9_topOf h9 hW0 hp (by omega) (by omega) ⟨by omega, b1⟩ (by rw [ix]; exact hd j (by omega)) (fun t t0 t1 te v1' ev1 i1 ei1 => ih2 (j + 1) v1' i1 (by omega) (by omega) (by omega) (by omega) ?_)⟩⟩
          · rw [e9] at c; omega
          · rw [ix] at te
            rw [ev1]
            exact wy_step hv (wy_share (hp (4 * n + j) (by omega)) (hc9 (4 * n + j) (by omega)) te)
      exact inner (A (r s 2) n).toNat 0 0 0 (by omega) rfl (by omega) (by omega) (by show (0 : Int) * b = 1 * 0; omega)
  exact key (z s 0).toNat 0 0 (by omega) rfl (fun i hi => by omega)
theorem wl_c9_putChance {s m t b : Int} (h : cJ L K r z A) (hd : ∀ a, cw_O L K 0 a → w (r a 0) = (a, 0)) (h9 : cg_9 L K r w ρ) (hy : S (ρ y)) (hW : cy_W L K r A y) (hs : 0 ≤ s ∧ s < 10) (hm : 0 ≤ m ∧ m < 4) (ht : 0 ≤ t ∧ t ≤ b) (hb : 1 ≤ b ∧ b ≤ 9999) {Q : (Nat → Nat → Int) → Prop} (hQ : ∀ A' : Nat → Nat → Int, cJ L K r z A' → cF ρ S z A z A' → cy_W L K r A' y → (∀ i, i ≠ (s * 4 + m).toNat → A' (r y 0) i = A (r y 0) i ∧ A' (r y 1) i = A (r y 1) i) → 1 ≤ A' (r y 1) (s * 4 + m).toNat → A' (r y 0) (s * 4 + m).toNat * b = t * A' (r y 1) (s * 4 + m).toNat → Q A') : wp_c9_putChance L K z r A y s m t b Q := by
  obtain ⟨hO, hc⟩ := hW
  obtain ⟨⟨a1, a2, a3, a4⟩, ⟨b1, b2, b3, b4⟩, -⟩ := h9 y hO
  have d0 := cg_dig hd a3 hO (by decide)
  have d1 := cg_dig hd b3 hO (by decide)
  have ne : r y 0 ≠ r y 1 := cg_ne a3 b3 (by simp)
  refine ⟨by omega, by omega, wl_c11_gcd (by omega) (by omega) (by omega) (fun g g0 g1 ga gb => ⟨hO, by omega, wq_c11_quotient (by omega) ⟨by omega, g1⟩ (fun q q1 _ q3 _ x xr xe => ⟨a1, by omega, fun A1 e1 => ⟨by omega, wq_c11_quotient (by omega) ⟨by omega, g1⟩ (fun p p1 _ p3 _ v vr ve => ⟨b1, by omega, fun A2 e2 => ?_⟩)⟩⟩)⟩)⟩
  have q1 := q1 ht.1
  have p1 := p1 (by omega)
  have q3 := q3 g0
  have p3 := p3 g0
  have xq : x = q := by omega
  have vp : v = p := by omega
  subst xq vp
  rw [Int.tdiv_eq_ediv_of_nonneg ht.1] at q3
  rw [Int.tdiv_eq_ediv_of_nonneg (by omega)] at p3
  have xg : x * g = t := by rw [q3]; exact Int.ediv_mul_cancel ga
  have vg : v * g = b := by rw [p3]; exact Int.ediv_mul_cancel gb
  have le : x ≤ v := by
    rw [q3, p3]
    exact Int.ediv_le_ediv g0 ht.2
  have vp : 1 ≤ v := by
    rcases Int.lt_or_eq_of_le p1.1 with h | h
    · omega
    · rw [← h] at vg; omega
  have j1 : cJ L K r z A1 := by rw [e1]; exact cJ_st h a1 d0 ⟨fun _ => xr, by omega, by omega, by omega⟩
  have j2 : cJ L K r z A2 := by rw [e2]; exact cJ_st j1 b1 d1 ⟨fun _ => vr, by omega, by omega, by omega⟩
  have e0 : A2 (r y 0) = A1 (r y 0) := by rw [e2, hz_s_a ne]
  have k0 : A2 (r y 0) (s * 4 + m).toNat = x := by rw [e0, e1, hz_s_same]
  have k1 : A2 (r y 1) (s * 4 + m).toNat = v := by rw [e2, hz_s_same]
  have kk : ∀ i, i ≠ (s * 4 + m).toNat → A2 (r y 0) i = A (r y 0) i ∧ A2 (r y 1) i = A (r y 1) i := fun i hin => by
    rw [e0, e2, hz_s_i hin, e1, hz_s_i hin, hz_s_i hin]
    exact ⟨rfl, rfl⟩
  refine hQ A2 j2 (by rw [e2, e1]; exact cF_trans (cF_st (by rw [a4]; exact hy)) (cF_st (by rw [b4]; exact hy))) ⟨hO, fun i hi => ?_⟩ kk (by rw [k1]; exact vp) (by rw [k0, k1, ← vg, ← xg]; grind)
  by_cases hin : i = (s * 4 + m).toNat
  · rw [hin, k0, k1]
    omega
  · rw [(kk i hin).1, (kk i hin).2]
    exact hc i hi
theorem wz_c9_putChance {s m t b : Int} (h : cJ L K r z A) (hd : ∀ a, cw_O L K 0 a → w (r a 0) = (a, 0)) (h9 : cg_9 L K r w ρ) (hy : S (ρ y)) (hW : cy_W L K r A y) (hs : 0 ≤ s ∧ s < 10) (hm : 0 ≤ m ∧ m < 4) (ht : 0 ≤ t ∧ t ≤ b) (hb : 1 ≤ b ∧ b ≤ 9999) {Q : (Nat → Nat → Int) → Prop} (hQ : ∀ A' : Nat → Nat → Int, cJ L K r z A' → cF ρ S z A z A' → cy_W L K r A' y → (∀ i, i ≠ (s * 4 + m).toNat → A' (r y 0) i = A (r y 0) i ∧ A' (r y 1) i = A (r y 1) i) → 1 ≤ A' (r y 1) (s * 4 + m).toNat → A' (r y 0) (s * 4 + m).toNat * b = t * A' (r y 1) (s * 4 + m).toNat → Nat.gcd (A' (r y 0) (s * 4 + m).toNat).natAbs (A' (r y 1) (s * 4 + m).toNat).natAbs = 1 → Q A') : wp_c9_putChance L K z r A y s m t b Q := by
  obtain ⟨hO, hc⟩ := hW
  obtain ⟨⟨a1, a2, a3, a4⟩, ⟨b1, b2, b3, b4⟩, -⟩ := h9 y hO
  have d0 := cg_dig hd a3 hO (by decide)
  have d1 := cg_dig hd b3 hO (by decide)
  have ne : r y 0 ≠ r y 1 := cg_ne a3 b3 (by simp)
  refine ⟨by omega, by omega, wv_c11_gcd (by omega) (by omega) (fun g eg g0' g1 ga gb => ⟨hO, by omega, wq_c11_quotient (by omega) ⟨by omega, g1⟩ (fun q q1 _ q3 _ x xr xe => ⟨a1, by omega, fun A1 e1 => ⟨by omega, wq_c11_quotient (by omega) ⟨by omega, g1⟩ (fun p p1 _ p3 _ v vr ve => ⟨b1, by omega, fun A2 e2 => ?_⟩)⟩⟩)⟩)⟩
  have sd := sp_dec (a := t) (b := b) (by omega)
  rw [← eg] at sd
  have g0 : 0 < g := by have := sd.1; omega
  have q1 := q1 ht.1
  have p1 := p1 (by omega)
  have q3 := q3 g0
  have p3 := p3 g0
  have xq : x = q := by omega
  have vp : v = p := by omega
  subst xq vp
  have cx : sp_q t g = x := by unfold sp_q; rw [if_neg (show ¬ g = 0 by omega)]; exact q3.symm
  have cv : sp_q b g = v := by unfold sp_q; rw [if_neg (show ¬ g = 0 by omega)]; exact p3.symm
  have cop : Nat.gcd x.natAbs v.natAbs = 1 := by
    have q9 := sd.2.2.2.2
    rw [cx, cv] at q9
    exact q9
  rw [Int.tdiv_eq_ediv_of_nonneg ht.1] at q3
  rw [Int.tdiv_eq_ediv_of_nonneg (by omega)] at p3
  have xg : x * g = t := by rw [q3]; exact Int.ediv_mul_cancel ga
  have vg : v * g = b := by rw [p3]; exact Int.ediv_mul_cancel gb
  have le : x ≤ v := by
    rw [q3, p3]
    exact Int.ediv_le_ediv g0 ht.2
  have vp : 1 ≤ v := by
    rcases Int.lt_or_eq_of_le p1.1 with h | h
    · omega
    · rw [← h] at vg; omega
  have j1 : cJ L K r z A1 := by rw [e1]; exact cJ_st h a1 d0 ⟨fun _ => xr, by omega, by omega, by omega⟩
  have j2 : cJ L K r z A2 := by rw [e2]; exact cJ_st j1 b1 d1 ⟨fun _ => vr, by omega, by omega, by omega⟩
  have e0 : A2 (r y 0) = A1 (r y 0) := by rw [e2, hz_s_a ne]
  have k0 : A2 (r y 0) (s * 4 + m).toNat = x := by rw [e0, e1, hz_s_same]
  have k1 : A2 (r y 1) (s * 4 + m).toNat = v := by rw [e2, hz_s_same]
  have kk : ∀ i, i ≠ (s * 4 + m).toNat → A2 (r y 0) i = A (r y 0) i ∧ A2 (r y 1) i = A (r y 1) i := fun i hin => by
    rw [e0, e2, hz_s_i hin, e1, hz_s_i hin, hz_s_i hin]
    exact ⟨rfl, rfl⟩
  refine hQ A2 j2 (by rw [e2, e1]; exact cF_trans (cF_st (by rw [a4]; exact hy)) (cF_st (by rw [b4]; exact hy))) ⟨hO, fun i hi => ?_⟩ kk (by rw [k1]; exact vp) (by rw [k0, k1, ← vg, ← xg]; grind) (by rw [k0, k1]; exact cop)
  by_cases hin : i = (s * 4 + m).toNat
  · rw [hin, k0, k1]
    omega
  · rw [(kk i hin).1, (kk i hin).2]
    exact hc i hi
end CY
theorem wy_G_congr {f g mv mv' : Nat → Int} {n n' : Int} (e : n = n') (h : ∀ i : Nat, (i : Int) < n' → mv i = mv' i) : wy_G f g mv n ↔ wy_G f g mv' n' := by
  subst e
  constructor
  · intro q i hi
    have := q i hi
    rw [h i hi] at this
    exact this
  · intro q i hi
    have := q i hi
    rw [← h i hi] at this
    exact this
/-- the model's view of a good way -/
theorem wl_isGood {z : Nat → Int} {A : Nat → Nat → Int} {p : Int} {Q : Int → Prop} (hI : mi_I z A) (hk : z 34 = 1) (hp : p = 1 ∨ p = 2)
    (h1 : wy_G (fun i => A 49 (40 * (p - 1).toNat + i)) (fun i => A 50 (40 * (p - 1).toNat + i)) (fun s => A 28 (20 * (z 32).toNat + (10 * (p - 1).toNat + s))) (A 26 (2 * (z 32).toNat + (p - 1).toNat)) → Q 1)
    (h0 : ¬ wy_G (fun i => A 49 (40 * (p - 1).toNat + i)) (fun i => A 50 (40 * (p - 1).toNat + i)) (fun s => A 28 (20 * (z 32).toNat + (10 * (p - 1).toNat + s))) (A 26 (2 * (z 32).toNat + (p - 1).toNat)) → Q 0) : wp_isGood z A p Q := by
  obtain ⟨g, hg, hgz, hgt⟩ := mi_g hI
  have hS := mi_S hI hk hp hgt
  have hW := (hI.2.2.2.2.2.1 hk).2.2
  obtain ⟨q, hq⟩ : ∃ q : Nat, (p - 1).toNat = q := ⟨_, rfl⟩
  rw [hq] at hS h1 h0
  rw [hgt] at h1 h0
  have hq2 : q < 2 := by omega
  have hpq : p = (q : Int) + 1 := by omega
  obtain ⟨G9, hG9⟩ : ∃ X : Nat → Prop, X = fun i => wy_t (fun j => A 49 (40 * q + (4 * i + j))) (fun j => A 50 (40 * q + (4 * i + j))) (A 28 (20 * g + (10 * q + i))).toNat = wy_b (fun j => A 50 (40 * q + (4 * i + j))) (A 28 (20 * g + (10 * q + i))).toNat := ⟨_, rfl⟩
  have hG : ∀ i, G9 i ↔ wy_t (fun j => A 49 (40 * q + (4 * i + j))) (fun j => A 50 (40 * q + (4 * i + j))) (A 28 (20 * g + (10 * q + i))).toNat = wy_b (fun j => A 50 (40 * q + (4 * i + j))) (A 28 (20 * g + (10 * q + i))).toNat := fun i => by rw [hG9]
  have h1 : (∀ i : Nat, (i : Int) < A 26 (2 * g + q) → G9 i) → Q 1 := fun h => h1 (fun i hi => (hG i).mp (h i hi))
  have h0 : ¬ (∀ i : Nat, (i : Int) < A 26 (2 * g + q) → G9 i) → Q 0 := fun h => h0 (fun h' => h (fun i hi => (hG i).mpr (h' i hi)))
  intro x hx
  intro P hP
  have key : ∀ (k s : Nat) (gd : Int), (A 26 (2 * g + q)).toNat - s = k → (s : Int) ≤ A 26 (2 * g + q) → ((gd = 1 ∧ ∀ i, i < s → G9 i) ∨ (gd = 0 ∧ ¬ ∀ i, i < s → G9 i)) → P gd ((10 * q + s : Nat) : Int) := by
    intro k
    induction k with
    | zero =>
      intro s gd hk' hs hgd
      refine hP gd _ (wq_setsOf hI hp ?_)
      rw [hgt, hq]
      have := hS.1
      refine ⟨⟨by omega, by omega⟩, ⟨by omega, by omega⟩, fun _ => ?_, fun c => by omega⟩
      rcases hgd with ⟨e, hh⟩ | ⟨e, hh⟩
      · rw [e]
        exact ⟨Or.inr rfl, h1 (fun i hi => hh i (by omega))⟩
      · rw [e]
        exact ⟨Or.inl rfl, h0 (fun hA => hh (fun i hi => hA i (by omega)))⟩
    | succ k ih =>
      intro s gd hk' hs hgd
      refine hP gd _ (wq_setsOf hI hp ?_)
      rw [hgt, hq]
      have hS1 := hS.1
      have hmv := hS.2 s (by omega)
      have gd01 : gd = 0 ∨ gd = 1 := by rcases hgd with h | h <;> omega
      refine ⟨⟨by omega, by omega⟩, ⟨by omega, by omega⟩, fun c => by omega, fun c x8 hx8 => ?_⟩
      have next : ∀ v : Int, ((v = 1 ∧ ∀ i, i < s + 1 → G9 i) ∨ (v = 0 ∧ ¬ ∀ i, i < s + 1 → G9 i)) → wp_isGood_111 z A p ((10 * q + s : Nat) : Int) v P Q := by
        intro v hv x3 hx3
        have e3 : x3 = ((10 * q + (s + 1) : Nat) : Int) := by omega
        rw [e3]
        exact ih (s + 1) v (by omega) (by omega) hv
      have bad : ¬ (∀ i, i < s + 1 → G9 i) → wp_isGood_110 z A p ((10 * q + s : Nat) : Int) P Q := fun h => next 0 (Or.inr ⟨rfl, h⟩)
      intro P2 hP2
      obtain ⟨mv, hmvn⟩ : ∃ m : Nat, (A 28 (20 * g + (10 * q + s))).toNat = m := ⟨_, rfl⟩
      have emv : A 28 (20 * g + (10 * q + s)) = (mv : Int) := by omega
      have et : (((10 * q + s : Nat) : Int)).toNat = 10 * q + s := by omega
      have key2 : ∀ (k2 j : Nat) (a b : Int), mv - j = k2 → j ≤ mv → a = wy_t (fun j => A 49 (40 * q + (4 * s + j))) (fun j => A 50 (40 * q + (4 * s + j))) j → b = wy_b (fun j => A 50 (40 * q + (4 * s + j))) j → 0 ≤ a → a ≤ j * 9999 ^ j → 0 ≤ b → b ≤ 9999 ^ j → P2 a b ((4 * (10 * q + s) + j : Nat) : Int) := by
        intro k2
        induction k2 with
        | zero =>
          intro j a b hk2 hj ea eb a0 a1 b0 b1
          have ej : j = mv := by omega
          have hr : hz_rL a ∧ hz_rL b := by
            rcases (show j = 1 ∨ j = 2 ∨ j = 3 ∨ j = 4 by omega) with e | e | e | e <;> subst e <;> simp only [Int.pow_succ, Int.pow_zero] at a1 b1 <;> exact ⟨⟨by omega, by omega⟩, ⟨by omega, by omega⟩⟩
          have iff9 : G9 s ↔ a = b := by
            rw [hG s, hmvn, ← ej, ← ea, ← eb]
          refine hP2 a b _ (wq_movesOf hI (by omega) (by omega) ?_)
          rw [hgt, et, emv]
          refine ⟨⟨by omega, by omega⟩, ⟨by omega, by omega⟩, fun _ => ⟨⟨by omega, by omega⟩, fun d => ?_, fun d => ⟨hr.1, hr.2, fun d2 => ?_, fun d2 => ?_⟩⟩, fun d => by omega⟩
          · rcases hgd with ⟨e, hh⟩ | ⟨e, hh⟩
            · omega
            · exact bad (fun hA => hh (fun i hi => hA i (by omega)))
          · exact bad (fun hA => d2 (iff9.mp (hA s (by omega))))
          · rcases hgd with ⟨e, hh⟩ | ⟨e, hh⟩
            · refine next 1 (Or.inl ⟨rfl, fun i hi => ?_⟩)
              by_cases ei : i = s
              · rw [ei]
                exact iff9.mpr d2
              · exact hh i (by omega)
            · exact absurd e d
        | succ k2 ih2 =>
          intro j a b hk2 hj ea eb a0 a1 b0 b1
          refine hP2 a b _ (wq_movesOf hI (by omega) (by omega) ?_)
          rw [hgt, et, emv]
          have ei : (((4 * (10 * q + s) + j : Nat) : Int)).toNat = 4 * (10 * q + s) + j := by omega
          have ex9 : 4 * (10 * q + s) + j = 40 * q + (4 * s + j) := by omega
          obtain ⟨w1, w2⟩ := hW (4 * (10 * q + s) + j) (by omega)
          rw [ei]
          obtain ⟨⟨c1, c2⟩, c3, c4⟩ := mi_pow (k := j) (by omega) a0 a1 b0 b1 w1.1 (by omega) (show 0 ≤ A 50 (4 * (10 * q + s) + j) by omega) w2.2
          refine ⟨⟨by omega, by omega⟩, ⟨by omega, by omega⟩, fun d => by omega, fun d => ⟨⟨by omega, by omega⟩, ⟨by omega, by omega⟩, ⟨by omega, by omega⟩, ⟨by omega, by omega⟩, fun a' ha' => ⟨⟨by omega, by omega⟩, ⟨by omega, by omega⟩, fun b' hb' x8' hx8' => ?_⟩⟩⟩
          have e8 : x8' = ((4 * (10 * q + s) + (j + 1) : Nat) : Int) := by omega
          rw [e8]
          refine ih2 (j + 1) a' b' (by omega) (by omega) ?_ ?_ (by rw [ha']; exact c1) (by rw [ha']; exact c2) (by rw [hb']; exact c3) (by rw [hb']; exact c4)
          · rw [ha', ea, eb, ex9]
            rfl
          · rw [hb', eb, ex9]
            rfl
      have h2 := key2 _ 0 0 1 rfl (by omega) rfl rfl (by omega) (by omega) (by omega) (by omega)
      have e8 : x8 = ((4 * (10 * q + s) + 0 : Nat) : Int) := by omega
      rw [e8]
      exact h2
  have h := key _ 0 1 rfl (by have := hS.1; omega) (Or.inl ⟨rfl, fun i hi => by omega⟩)
  have e : x = ((10 * q + 0 : Nat) : Int) := by omega
  rw [e]
  exact h
