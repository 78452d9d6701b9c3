/-- the least common multiple is one -/
theorem sp_l_least {a b M : Int} (ha : 1 ≤ a) (hb : 1 ≤ b) (h1 : a ∣ M) (h2 : b ∣ M) : sp_l a b ∣ M := by
  have hs : 1 ≤ sp_g b a := (sp_dec (a := b) (b := a) ha).1
  obtain ⟨d1, d2, d3, d4, d5⟩ := sp_dec (a := a) (b := b) hb
  obtain ⟨g, hg⟩ : ∃ g, sp_g a b = g := ⟨_, rfl⟩
  obtain ⟨u, hu⟩ : ∃ u, sp_q a g = u := ⟨_, rfl⟩
  obtain ⟨v, hv⟩ : ∃ v, sp_q b g = v := ⟨_, rfl⟩
  unfold sp_l
  rw [hg] at d1 d2 d3 d4 d5 ⊢
  rw [hu] at d2 d5 ⊢
  rw [hv] at d3 d4 d5
  obtain ⟨m, hm⟩ := h1
  obtain ⟨n, hn⟩ := h2
  have e : u * m = v * n := by
    refine Int.eq_of_mul_eq_mul_left (show g ≠ 0 by omega) ?_
    rw [← Int.mul_assoc, ← Int.mul_assoc, ← d2, ← d3, ← hm, ← hn]
  have k1 : v.natAbs ∣ u.natAbs * m.natAbs := by
    rw [← Int.natAbs_mul, e, Int.natAbs_mul]
    exact Nat.dvd_mul_right _ _
  have d5' : Nat.Coprime v.natAbs u.natAbs := by
    show Nat.gcd v.natAbs u.natAbs = 1
    rw [Nat.gcd_comm]
    exact d5
  have k2 : v.natAbs ∣ m.natAbs := Nat.Coprime.dvd_of_dvd_mul_left d5' k1
  have k3 : v ∣ m := Int.natAbs_dvd_natAbs.mp k2
  obtain ⟨k, hk⟩ := k3
  refine ⟨k, ?_⟩
  rw [hm, hk, d2, d3]
  grind
/-- the least common multiple of n numbers -/
noncomputable def wb (b : Nat → Int) : Nat → Int
  | 0 => 1
  | n + 1 => sp_l (wb b n) (b n)
theorem wb_spec {b : Nat → Int} {n : Nat} (h : ∀ i, i < n → 1 ≤ b i) : 1 ≤ wb b n ∧ (∀ i, i < n → b i ∣ wb b n) ∧ ∀ M : Int, (∀ i, i < n → b i ∣ M) → wb b n ∣ M := by
  induction n with
  | zero => exact ⟨Int.le_refl _, fun i hi => by omega, fun M _ => Int.one_dvd M⟩
  | succ n ih =>
    obtain ⟨a1, a2, a3⟩ := ih (fun i hi => h i (by omega))
    have bn := h n (by omega)
    obtain ⟨c1, c2, c3⟩ := sp_l_dvd a1 bn
    refine ⟨c3, fun i hi => ?_, fun M hM => sp_l_least a1 bn (a3 M (fun i hi => hM i (by omega))) (hM n (by omega))⟩
    by_cases e : i = n
    · rw [e]; exact c2
    · exact Int.dvd_trans (a2 i (by omega)) c1
theorem lb_cop {a b u : Nat} (h : Nat.gcd a b = 1) (hu : u ∣ b) : Nat.gcd u a = 1 := by
  have q := Nat.dvd_gcd (Nat.gcd_dvd_right u a) (Nat.dvd_trans (Nat.gcd_dvd_left u a) hu)
  rw [h] at q
  exact Nat.dvd_one.mp q
theorem lb_sub {g p q : Nat} (h : g ∣ p + q) (hq : g ∣ q) : g ∣ p := by
  obtain ⟨m, hm⟩ := h
  obtain ⟨n, hn⟩ := hq
  refine ⟨m - n, ?_⟩
  have e : g * (m - n) = g * m - g * n := by first | exact Nat.mul_sub g m n | exact Nat.mul_sub_left_distrib g m n
  omega
theorem lb_sub' {g p q : Nat} (h : g ∣ p + q) (hp : g ∣ p) : g ∣ q := lb_sub (by rw [Nat.add_comm]; exact h) hp
theorem lb_mul {u a b : Nat} (h : Nat.gcd u a = 1) (hd : u ∣ a * b) : u ∣ b := Nat.Coprime.dvd_of_dvd_mul_left h hd
/-- two fractions: what they have in common below, and what stands above their sum -/
theorem lb_two {a b c d : Nat} (hb : 0 < b) (hd : 0 < d) (h1 : Nat.gcd a b = 1) (h2 : Nat.gcd c d = 1) : ∃ h u v N : Nat, 0 < h ∧ 0 < u ∧ 0 < v ∧ b = h * u ∧ d = h * v ∧ N = a * v + c * u ∧ Nat.gcd u N = 1 ∧ Nat.gcd v N = 1 ∧ Nat.gcd u v = 1 := by
  have hg : 0 < Nat.gcd b d := Nat.gcd_pos_of_pos_left _ hb
  have hco := Nat.coprime_div_gcd_div_gcd hg
  obtain ⟨u, hu⟩ := Nat.gcd_dvd_left b d
  obtain ⟨v, hv⟩ := Nat.gcd_dvd_right b d
  have eu : b / Nat.gcd b d = u := Nat.div_eq_of_eq_mul_right hg hu
  have ev : d / Nat.gcd b d = v := Nat.div_eq_of_eq_mul_right hg hv
  rw [eu, ev] at hco
  have huv : Nat.gcd u v = 1 := hco
  have up : 0 < u := by
    apply Nat.pos_of_ne_zero
    intro e
    rw [e, Nat.mul_zero] at hu
    omega
  have vp : 0 < v := by
    apply Nat.pos_of_ne_zero
    intro e
    rw [e, Nat.mul_zero] at hv
    omega
  obtain ⟨h, hh⟩ : ∃ h, Nat.gcd b d = h := ⟨_, rfl⟩
  rw [hh] at hu hv hg
  have hub : u ∣ b := ⟨h, by rw [hu]; exact Nat.mul_comm _ _⟩
  have hvd : v ∣ d := ⟨h, by rw [hv]; exact Nat.mul_comm _ _⟩
  refine ⟨h, u, v, a * v + c * u, hg, up, vp, hu, hv, rfl, ?_, ?_, huv⟩
  · obtain ⟨g, eg⟩ : ∃ g, Nat.gcd u (a * v + c * u) = g := ⟨_, rfl⟩
    have g1 : g ∣ u := by rw [← eg]; exact Nat.gcd_dvd_left _ _
    have g2 : g ∣ a * v + c * u := by rw [← eg]; exact Nat.gcd_dvd_right _ _
    have g3 : g ∣ a * v := lb_sub g2 (Nat.dvd_trans g1 (Nat.dvd_mul_left u c))
    have g4 : g ∣ v := lb_mul (lb_cop h1 (Nat.dvd_trans g1 hub)) g3
    have g5 := Nat.dvd_gcd g1 g4
    rw [huv] at g5
    rw [eg]
    exact Nat.dvd_one.mp g5
  · obtain ⟨g, eg⟩ : ∃ g, Nat.gcd v (a * v + c * u) = g := ⟨_, rfl⟩
    have g1 : g ∣ v := by rw [← eg]; exact Nat.gcd_dvd_left _ _
    have g2 : g ∣ a * v + c * u := by rw [← eg]; exact Nat.gcd_dvd_right _ _
    have g3 : g ∣ c * u := lb_sub' g2 (Nat.dvd_trans g1 (Nat.dvd_mul_left v a))
    have g4 : g ∣ u := lb_mul (lb_cop h2 (Nat.dvd_trans g1 hvd)) g3
    have g5 := Nat.dvd_gcd g4 g1
    rw [huv] at g5
    rw [eg]
    exact Nat.dvd_one.mp g5
theorem lb_lcm {h u v M : Nat} (hh : 0 < h) (huv : Nat.gcd u v = 1) (h1 : h * u ∣ M) (h2 : h * v ∣ M) : h * u * v ∣ M := by
  obtain ⟨m, hm⟩ := h1
  obtain ⟨n, hn⟩ := h2
  have e : u * m = v * n := by
    refine Nat.eq_of_mul_eq_mul_left hh ?_
    rw [← Nat.mul_assoc, ← Nat.mul_assoc, ← hm, ← hn]
  have k : v ∣ m := lb_mul (u := v) (a := u) (by rw [Nat.gcd_comm]; exact huv) (by rw [e]; exact Nat.dvd_mul_right _ _)
  obtain ⟨k, hk⟩ := k
  exact ⟨k, by rw [hm, hk]; exact (Nat.mul_assoc (h * u) v k).symm⟩
/-- four fractions that are 1 together: what they have in common below is no more than the root of the product -/
theorem lb_nat {a0 b0 a1 b1 a2 b2 a3 b3 B t0 t1 t2 t3 : Nat} (p0 : 0 < b0) (p1 : 0 < b1) (p2 : 0 < b2) (p3 : 0 < b3) (c0 : Nat.gcd a0 b0 = 1) (c1 : Nat.gcd a1 b1 = 1) (c2 : Nat.gcd a2 b2 = 1) (c3 : Nat.gcd a3 b3 = 1) (hB : 0 < B) (d0 : b0 ∣ B) (d1 : b1 ∣ B) (d2 : b2 ∣ B) (d3 : b3 ∣ B) (least : ∀ M, b0 ∣ M → b1 ∣ M → b2 ∣ M → b3 ∣ M → B ∣ M) (e0 : t0 * b0 = B * a0) (e1 : t1 * b1 = B * a1) (e2 : t2 * b2 = B * a2) (e3 : t3 * b3 = B * a3) (hs : t0 + t1 + t2 + t3 = B) : B * B ≤ (b0 * b1) * (b2 * b3) := by
  obtain ⟨h, u, v, N, hp, up, vp, eb0, eb1, eN, cu, cv, cuv⟩ := lb_two p0 p1 c0 c1
  obtain ⟨k, x, y, O, kp, xp, yp, eb2, eb3, eO, cx, cy, cxy⟩ := lb_two p2 p3 c2 c3
  obtain ⟨X, hX⟩ : h * u * v ∣ B := lb_lcm hp cuv (by rw [← eb0]; exact d0) (by rw [← eb1]; exact d1)
  obtain ⟨Y, hY⟩ : k * x * y ∣ B := lb_lcm kp cxy (by rw [← eb2]; exact d2) (by rw [← eb3]; exact d3)
  have f0 : t0 = v * X * a0 := by
    refine Nat.eq_of_mul_eq_mul_right p0 ?_
    rw [e0, hX, eb0]
    grind
  have f1 : t1 = u * X * a1 := by
    refine Nat.eq_of_mul_eq_mul_right p1 ?_
    rw [e1, hX, eb1]
    grind
  have f2 : t2 = y * Y * a2 := by
    refine Nat.eq_of_mul_eq_mul_right p2 ?_
    rw [e2, hY, eb2]
    grind
  have f3 : t3 = x * Y * a3 := by
    refine Nat.eq_of_mul_eq_mul_right p3 ?_
    rw [e3, hY, eb3]
    grind
  have sum : N * X + O * Y = B := by
    rw [← hs, f0, f1, f2, f3, eN, eO]
    grind
  have Xp : 0 < X := by
    apply Nat.pos_of_ne_zero
    intro e
    rw [e, Nat.mul_zero] at hX
    omega
  have Yp : 0 < Y := by
    apply Nat.pos_of_ne_zero
    intro e
    rw [e, Nat.mul_zero] at hY
    omega
  have cXY : Nat.gcd X Y = 1 := by
    obtain ⟨g, eg⟩ : ∃ g, Nat.gcd X Y = g := ⟨_, rfl⟩
    have gp : 0 < g := by rw [← eg]; exact Nat.gcd_pos_of_pos_left _ Xp
    obtain ⟨X', hX'⟩ : g ∣ X := by rw [← eg]; exact Nat.gcd_dvd_left _ _
    obtain ⟨Y', hY'⟩ : g ∣ Y := by rw [← eg]; exact Nat.gcd_dvd_right _ _
    have eB : B = g * (h * u * v * X') := by rw [hX, hX']; grind
    have eB2 : B = g * (k * x * y * Y') := by rw [hY, hY']; grind
    have same : h * u * v * X' = k * x * y * Y' := Nat.eq_of_mul_eq_mul_left gp (by rw [← eB, ← eB2])
    have dv : B ∣ h * u * v * X' := by
      refine least _ ?_ ?_ ?_ ?_
      · exact ⟨v * X', by rw [eb0]; grind⟩
      · exact ⟨u * X', by rw [eb1]; grind⟩
      · rw [same]; exact ⟨y * Y', by rw [eb2]; grind⟩
      · rw [same]; exact ⟨x * Y', by rw [eb3]; grind⟩
    have X'p : 0 < h * u * v * X' := by
      apply Nat.pos_of_ne_zero
      intro e
      rw [e, Nat.mul_zero] at eB
      omega
    have le := Nat.le_of_dvd X'p dv
    obtain ⟨q, hq⟩ : ∃ q, h * u * v * X' = q := ⟨_, rfl⟩
    rw [hq] at eB le X'p
    rw [eg]
    apply Classical.byContradiction
    intro hne
    have g2 : 2 ≤ g := by omega
    have : 2 * q ≤ g * q := Nat.mul_le_mul_right q g2
    omega
  have cYX : Nat.gcd Y X = 1 := by rw [Nat.gcd_comm]; exact cXY
  have YN : Y ∣ N := by
    have q : Y ∣ X * N := by
      have : Y ∣ N * X + O * Y := by rw [sum, hY]; exact Nat.dvd_mul_left Y (k * x * y)
      have q2 := lb_sub this (Nat.dvd_mul_left Y O)
      rw [Nat.mul_comm] at q2
      exact q2
    exact lb_mul cYX q
  have XO : X ∣ O := by
    have q : X ∣ Y * O := by
      have : X ∣ N * X + O * Y := by rw [sum, hX]; exact Nat.dvd_mul_left X (h * u * v)
      have q2 := lb_sub' this (Nat.dvd_mul_left X N)
      rw [Nat.mul_comm] at q2
      exact q2
    exact lb_mul cXY q
  have Yuv : Nat.gcd Y (u * v) = 1 := by
    obtain ⟨g, eg⟩ : ∃ g, Nat.gcd Y (u * v) = g := ⟨_, rfl⟩
    have g1 : g ∣ N := Nat.dvd_trans (by rw [← eg]; exact Nat.gcd_dvd_left _ _) YN
    have g2 : g ∣ u * v := by rw [← eg]; exact Nat.gcd_dvd_right _ _
    have g3 : Nat.gcd g u = 1 := lb_cop cu g1
    have g4 : g ∣ v := lb_mul g3 g2
    have g5 := Nat.dvd_gcd g4 g1
    rw [cv] at g5
    rw [eg]
    exact Nat.dvd_one.mp g5
  have Xxy : Nat.gcd X (x * y) = 1 := by
    obtain ⟨g, eg⟩ : ∃ g, Nat.gcd X (x * y) = g := ⟨_, rfl⟩
    have g1 : g ∣ O := Nat.dvd_trans (by rw [← eg]; exact Nat.gcd_dvd_left _ _) XO
    have g2 : g ∣ x * y := by rw [← eg]; exact Nat.gcd_dvd_right _ _
    have g3 : Nat.gcd g x = 1 := lb_cop cx g1
    have g4 : g ∣ y := lb_mul g3 g2
    have g5 := Nat.dvd_gcd g4 g1
    rw [cy] at g5
    rw [eg]
    exact Nat.dvd_one.mp g5
  -- Y is in h, X in k
  have Yh : Y ∣ h := by
    have q : Y ∣ (u * v) * (X * h) := ⟨k * x * y, by
      have : (u * v) * (X * h) = B := by rw [hX]; grind
      rw [this, hY]
      exact Nat.mul_comm _ _⟩
    exact lb_mul cYX (lb_mul Yuv q)
  have Xk : X ∣ k := by
    have q : X ∣ (x * y) * (Y * k) := ⟨h * u * v, by
      have : (x * y) * (Y * k) = B := by rw [hY]; grind
      rw [this, hX]
      exact Nat.mul_comm _ _⟩
    exact lb_mul cXY (lb_mul Xxy q)
  have lY := Nat.le_of_dvd hp Yh
  have lX := Nat.le_of_dvd kp Xk
  have q1 : B ≤ h * u * v * k := by rw [hX]; exact Nat.mul_le_mul_left _ lX
  have q2 : B ≤ k * x * y * h := by rw [hY]; exact Nat.mul_le_mul_left _ lY
  have q3 := Nat.mul_le_mul q1 q2
  have e : h * u * v * k * (k * x * y * h) = (b0 * b1) * (b2 * b3) := by rw [eb0, eb1, eb2, eb3]; grind
  rw [← e]
  exact q3
theorem lb_int {a b t : Nat → Int} {m : Nat} {B : Int} (hm : 1 ≤ m ∧ m ≤ 4) (hb : ∀ i, i < m → 1 ≤ b i ∧ b i ≤ 9999) (ha : ∀ i, i < m → 0 ≤ a i) (hc : ∀ i, i < m → Nat.gcd (a i).natAbs (b i).natAbs = 1) (eB : B = wb b m) (ht : ∀ i, i < m → t i * b i = B * a i) (hs : cS t m = B) : B ≤ 99980001 := by
  obtain ⟨w1, w2, w3⟩ := wb_spec (b := b) (n := m) (fun i hi => (hb i hi).1)
  rw [← eB] at w1 w2 w3
  have tn : ∀ i, i < m → 0 ≤ t i := fun i hi => by
    apply Classical.byContradiction
    intro hneg
    have h1 := hb i hi
    have h2 : t i * b i ≤ (-1) * b i := Int.mul_le_mul_of_nonneg_right (by omega) (by omega)
    have h3 : 0 ≤ B * a i := Int.mul_nonneg (by omega) (ha i hi)
    have h4 := ht i hi
    omega
  obtain ⟨BN, hBN⟩ : ∃ x : Nat, B = (x : Int) := ⟨B.toNat, by omega⟩
  obtain ⟨bN, hbN⟩ : ∃ f : Nat → Nat, f = fun i => if i < m then (b i).toNat else 1 := ⟨_, rfl⟩
  obtain ⟨aN, haN⟩ : ∃ f : Nat → Nat, f = fun i => if i < m then (a i).toNat else 0 := ⟨_, rfl⟩
  obtain ⟨tN, htN⟩ : ∃ f : Nat → Nat, f = fun i => if i < m then (t i).toNat else 0 := ⟨_, rfl⟩
  have b1 : ∀ i, i < m → b i = (bN i : Int) := fun i hi => by
    have := hb i hi
    rw [hbN]
    show b i = (((if i < m then (b i).toNat else 1 : Nat)) : Int)
    rw [if_pos hi]
    omega
  have a1 : ∀ i, i < m → a i = (aN i : Int) := fun i hi => by
    have := ha i hi
    rw [haN]
    show a i = (((if i < m then (a i).toNat else 0 : Nat)) : Int)
    rw [if_pos hi]
    omega
  have t1 : ∀ i, i < m → t i = (tN i : Int) := fun i hi => by
    have := tn i hi
    rw [htN]
    show t i = (((if i < m then (t i).toNat else 0 : Nat)) : Int)
    rw [if_pos hi]
    omega
  have b0 : ∀ i, ¬ i < m → bN i = 1 := fun i hi => by rw [hbN]; exact if_neg hi
  have a0 : ∀ i, ¬ i < m → aN i = 0 := fun i hi => by rw [haN]; exact if_neg hi
  have t0 : ∀ i, ¬ i < m → tN i = 0 := fun i hi => by rw [htN]; exact if_neg hi
  have abs : ∀ x : Nat, ((x : Int)).natAbs = x := fun x => rfl
  have F : ∀ i, (0 < bN i ∧ bN i ≤ 9999) ∧ Nat.gcd (aN i) (bN i) = 1 ∧ bN i ∣ BN ∧ tN i * bN i = BN * aN i := by
    intro i
    by_cases hi : i < m
    · have h1 := hb i hi
      have h2 := hc i hi
      have h3 := w2 i hi
      have h4 := ht i hi
      rw [b1 i hi] at h1 h2 h3 h4
      rw [a1 i hi] at h2 h4
      rw [t1 i hi] at h4
      rw [hBN] at h3 h4
      rw [abs, abs] at h2
      have h5 := Int.natAbs_dvd_natAbs.mpr h3
      rw [abs, abs] at h5
      refine ⟨by omega, h2, h5, ?_⟩
      have h6 : ((tN i * bN i : Nat) : Int) = ((BN * aN i : Nat) : Int) := by rw [Int.natCast_mul, Int.natCast_mul]; exact h4
      first | exact Int.ofNat.inj h6 | omega
    · rw [b0 i hi, a0 i hi, t0 i hi]
      refine ⟨by decide, by decide, Nat.one_dvd BN, ?_⟩
      rw [Nat.mul_zero, Nat.zero_mul]
  have least : ∀ M : Nat, bN 0 ∣ M → bN 1 ∣ M → bN 2 ∣ M → bN 3 ∣ M → BN ∣ M := by
    intro M m0 m1 m2 m3
    have q := w3 (M : Int) (fun i hi => by
      rw [b1 i hi]
      have : i = 0 ∨ i = 1 ∨ i = 2 ∨ i = 3 := by omega
      refine Int.natAbs_dvd_natAbs.mp ?_
      rw [abs, abs]
      rcases this with e | e | e | e <;> rw [e] <;> assumption)
    have q2 := Int.natAbs_dvd_natAbs.mpr q
    rw [hBN, abs, abs] at q2
    exact q2
  have sum : tN 0 + tN 1 + tN 2 + tN 3 = BN := by
    have e : m = 1 ∨ m = 2 ∨ m = 3 ∨ m = 4 := by omega
    rcases e with e | e | e | e
    · have q := t1 0 (by omega)
      have z1 := t0 1 (by omega)
      have z2 := t0 2 (by omega)
      have z3 := t0 3 (by omega)
      rw [e] at hs
      simp only [cS] at hs
      omega
    · have q := t1 0 (by omega)
      have q1 := t1 1 (by omega)
      have z2 := t0 2 (by omega)
      have z3 := t0 3 (by omega)
      rw [e] at hs
      simp only [cS] at hs
      omega
    · have q := t1 0 (by omega)
      have q1 := t1 1 (by omega)
      have q2 := t1 2 (by omega)
      have z3 := t0 3 (by omega)
      rw [e] at hs
      simp only [cS] at hs
      omega
    · have q := t1 0 (by omega)
      have q1 := t1 1 (by omega)
      have q2 := t1 2 (by omega)
      have q3 := t1 3 (by omega)
      rw [e] at hs
      simp only [cS] at hs
      omega
  obtain ⟨⟨p0, l0⟩, c0, d0, e0⟩ := F 0
  obtain ⟨⟨p1, l1⟩, c1, d1, e1⟩ := F 1
  obtain ⟨⟨p2, l2⟩, c2, d2, e2⟩ := F 2
  obtain ⟨⟨p3, l3⟩, c3, d3, e3⟩ := F 3
  have fin := lb_nat p0 p1 p2 p3 c0 c1 c2 c3 (by omega) d0 d1 d2 d3 least e0 e1 e2 e3 sum
  have u1 : bN 0 * bN 1 ≤ 9999 * 9999 := Nat.mul_le_mul l0 l1
  have u2 : bN 2 * bN 3 ≤ 9999 * 9999 := Nat.mul_le_mul l2 l3
  have u3 : (bN 0 * bN 1) * (bN 2 * bN 3) ≤ (9999 * 9999) * (9999 * 9999) := Nat.mul_le_mul u1 u2
  apply Classical.byContradiction
  intro hne
  have big : 99980002 ≤ BN := by omega
  have u4 : 99980002 * 99980002 ≤ BN * BN := Nat.mul_le_mul big big
  omega
