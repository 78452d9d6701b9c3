theorem co_mul {a b k : Nat} (h1 : Nat.gcd a k = 1) (h2 : Nat.gcd b k = 1) : Nat.gcd (a * b) k = 1 := by
  have d1 : Nat.gcd (a * b) k ∣ b * a := by rw [Nat.mul_comm b a]; exact Nat.gcd_dvd_left (a * b) k
  have d2 : Nat.gcd (a * b) k ∣ b * k := Nat.dvd_trans (Nat.gcd_dvd_right (a * b) k) (Nat.dvd_mul_left k b)
  have d3 := Nat.dvd_gcd d1 d2
  rw [Nat.gcd_mul_left, h1, Nat.mul_one] at d3
  have d4 := Nat.dvd_gcd d3 (Nat.gcd_dvd_right (a * b) k)
  rw [h2] at d4
  exact Nat.eq_one_of_dvd_one d4
theorem co_dvd {a b m n : Nat} (ha : a ∣ m) (hb : b ∣ n) (h : Nat.gcd m n = 1) : Nat.gcd a b = 1 := by
  have d := Nat.dvd_gcd (Nat.dvd_trans (Nat.gcd_dvd_left a b) ha) (Nat.dvd_trans (Nat.gcd_dvd_right a b) hb)
  rw [h] at d
  exact Nat.eq_one_of_dvd_one d
theorem sp_g_nat (a b : Int) : sp_g a b = ((Nat.gcd a.natAbs b.natAbs : Nat) : Int) := rfl
/-- in least terms -/
theorem sp_red {G N D : Int} (hG : 1 ≤ G) (h : Nat.gcd N.natAbs D.natAbs = 1) : sp_g (G * N) (G * D) = G ∧ sp_q (G * N) G = N ∧ sp_q (G * D) G = D := by
  refine ⟨?_, ?_, ?_⟩
  · rw [sp_g_nat, Int.natAbs_mul, Int.natAbs_mul, Nat.gcd_mul_left, h, Nat.mul_one]
    omega
  · unfold sp_q
    rw [if_neg (by omega), Int.mul_tdiv_cancel_left _ (by omega)]
  · unfold sp_q
    rw [if_neg (by omega), Int.mul_tdiv_cancel_left _ (by omega)]
theorem sp_dec {a b : Int} (hb : 1 ≤ b) : 1 ≤ sp_g a b ∧ a = sp_g a b * sp_q a (sp_g a b) ∧ b = sp_g a b * sp_q b (sp_g a b) ∧ 1 ≤ sp_q b (sp_g a b) ∧ Nat.gcd (sp_q a (sp_g a b)).natAbs (sp_q b (sp_g a b)).natAbs = 1 := by
  have gl := sp_g_l a b
  have gr := sp_g_r a b
  have gn := sp_g_nn a b
  have ge := sp_g_nat a b
  generalize hg : sp_g a b = g at *
  obtain ⟨u, hu⟩ := gl
  obtain ⟨v, hv⟩ := gr
  have g1 : 1 ≤ g := by
    apply Classical.byContradiction
    intro hc
    have : g = 0 := by omega
    rw [this, Int.zero_mul] at hv
    omega
  have eu : sp_q a g = u := by
    unfold sp_q
    rw [if_neg (by omega), hu, Int.mul_tdiv_cancel_left _ (by omega)]
  have ev : sp_q b g = v := by
    unfold sp_q
    rw [if_neg (by omega), hv, Int.mul_tdiv_cancel_left _ (by omega)]
  have v1 : 1 ≤ v := by
    apply Classical.byContradiction
    intro hc
    have : 0 ≤ g * (-v) := Int.mul_nonneg (by omega) (by omega)
    rw [Int.mul_neg] at this
    omega
  rw [eu, ev]
  refine ⟨g1, hu, hv, v1, ?_⟩
  rw [hu, hv, Int.natAbs_mul, Int.natAbs_mul, Nat.gcd_mul_left] at ge
  have e2 : g.natAbs * Nat.gcd u.natAbs v.natAbs = g.natAbs * 1 := by omega
  exact Nat.eq_of_mul_eq_mul_left (by omega) e2
/-- an end's number, worked out in two ways -/
theorem sp_en_eq {top bot ft fb : Int} (hb : 1 ≤ bot) (hf : 1 ≤ fb) (h : sp_g top bot = 1) : sp_q top (sp_g top (sp_q fb (sp_g ft fb))) * sp_q (sp_q ft (sp_g ft fb)) (sp_g (sp_q ft (sp_g ft fb)) bot) = sp_q (top * ft) (sp_g (top * ft) (bot * fb)) ∧ sp_q bot (sp_g (sp_q ft (sp_g ft fb)) bot) * sp_q (sp_q fb (sp_g ft fb)) (sp_g top (sp_q fb (sp_g ft fb))) = sp_q (bot * fb) (sp_g (top * ft) (bot * fb)) := by
  obtain ⟨f1, f2, f3, f4, f5⟩ := sp_dec (a := ft) (b := fb) hf
  generalize sp_g ft fb = g1 at *
  generalize sp_q ft g1 = rt at *
  generalize sp_q fb g1 = rb at *
  obtain ⟨a1, a2, a3, a4, a5⟩ := sp_dec (a := top) (b := rb) f4
  generalize sp_g top rb = ga at *
  generalize sp_q top ga = u at *
  generalize sp_q rb ga = v at *
  obtain ⟨b1, b2, b3, b4, b5⟩ := sp_dec (a := rt) (b := bot) hb
  generalize sp_g rt bot = gb at *
  generalize sp_q rt gb = c at *
  generalize sp_q bot gb = e at *
  have co : Nat.gcd top.natAbs bot.natAbs = 1 := by
    rw [sp_g_nat] at h
    omega
  have dv : ∀ {x y g : Int}, x = g * y → y.natAbs ∣ x.natAbs := fun {x y g} q => by rw [q, Int.natAbs_mul]; exact Nat.dvd_mul_left _ _
  have c1 : Nat.gcd u.natAbs e.natAbs = 1 := co_dvd (dv a2) (dv b3) co
  have c2 : Nat.gcd c.natAbs v.natAbs = 1 := co_dvd (dv b2) (dv a3) f5
  have c3 : Nat.gcd (u * c).natAbs (e * v).natAbs = 1 := by
    rw [Int.natAbs_mul, Int.natAbs_mul]
    refine co_mul ?_ ?_
    · rw [Nat.gcd_comm]
      exact co_mul (by rw [Nat.gcd_comm]; exact c1) (by rw [Nat.gcd_comm]; exact a5)
    · rw [Nat.gcd_comm]
      exact co_mul (by rw [Nat.gcd_comm]; exact b5) (by rw [Nat.gcd_comm]; exact c2)
  have G1 : 1 ≤ ga * g1 * gb := by
    have h1 : 1 * 1 ≤ ga * g1 := Int.mul_le_mul a1 f1 (by decide) (by omega)
    have h2 : 1 * 1 ≤ ga * g1 * gb := Int.mul_le_mul (by omega) b1 (by decide) (by omega)
    omega
  have e1 : top * ft = ga * g1 * gb * (u * c) := by rw [f2, b2, a2]; grind
  have e2 : bot * fb = ga * g1 * gb * (e * v) := by rw [f3, a3, b3]; grind
  obtain ⟨r1, r2, r3⟩ := sp_red G1 c3
  rw [e1, e2, r1, r2, r3]
  exact ⟨rfl, rfl⟩
/-- a set's way, the latest first; the ways of the open nodes -/
noncomputable def pt (B : Nat → Nat → Int) (S : Nat) : Nat → List (Int × Int)
  | 0 => []
  | n + 1 => (B 30 (20 * S + n), B 31 (20 * S + n)) :: pt B S n
noncomputable def ola (B : Nat → Nat → Int) (t : Int) : Nat → List (Int × Int)
  | 0 => []
  | j + 1 => if B 38 j ≠ 63 ∧ B 39 j / 10 = t then (B 39 j, B 40 j) :: ola B t j else ola B t j
noncomputable def ol (t : Nat) : List sp_F → List (Int × Int)
  | [] => []
  | f :: F => if f.2.1 ≠ 63 ∧ f.2.2.1 = t then (((10 * t + f.2.2.2.1 : Nat) : Int), f.2.2.2.2.1) :: ol t F else ol t F
noncomputable def hdd (t : Nat) : List (Int × Int) → Int
  | [] => -1
  | q :: _ => (q.1 - 10 * (t : Int)) * 512 + q.2
theorem ola_len (B : Nat → Nat → Int) (t : Int) (j : Nat) : ((ola B t j).length : Int) = go_c B t j := by
  induction j with
  | zero => rfl
  | succ j ih =>
    simp only [ola, go_c]
    split
    · rw [List.length_cons]; omega
    · omega
theorem pt_len (B : Nat → Nat → Int) (S n : Nat) : (pt B S n).length = n := by
  induction n with
  | zero => rfl
  | succ n ih => simp only [pt]; rw [List.length_cons, ih]
theorem pt_keep {B C : Nat → Nat → Int} {S n : Nat} (h : ∀ i, i < n → C 30 (20 * S + i) = B 30 (20 * S + i) ∧ C 31 (20 * S + i) = B 31 (20 * S + i)) : pt C S n = pt B S n := by
  induction n with
  | zero => rfl
  | succ n ih =>
    simp only [pt]
    rw [ih (fun i hi => h i (by omega)), (h n (by omega)).1, (h n (by omega)).2]
theorem ola_keep {B C : Nat → Nat → Int} {t : Int} {n : Nat} (h : ∀ i, i < n → C 38 i = B 38 i ∧ C 39 i = B 39 i ∧ C 40 i = B 40 i) : ola C t n = ola B t n := by
  induction n with
  | zero => rfl
  | succ n ih =>
    obtain ⟨h1, h2, h3⟩ := h n (by omega)
    simp only [ola]
    rw [ih (fun i hi => h i (by omega)), h1, h2, h3]
theorem sp_dd_ol (t : Nat) (F : List sp_F) : sp_dd t F = hdd t (ol t F) := by
  induction F with
  | nil => rfl
  | cons f F ih =>
    simp only [sp_dd, ol]
    by_cases c : f.2.1 ≠ 63 ∧ f.2.2.1 = t
    · rw [if_pos c, if_pos c]
      simp only [hdd]
      omega
    · rw [if_neg c, if_neg c]
      exact ih
/-- the open nodes, as they lie -/
noncomputable def mr_F (d : Nat) (B σ : Nat → Nat → Int) : List sp_F → Prop
  | [] => True
  | f :: F => (B 37 F.length = (f.1 : Int) ∧ B 38 F.length = f.2.1 ∧ B 40 F.length = f.2.2.2.2.1 ∧ B 41 F.length = f.2.2.2.2.2.1 ∧ B 42 F.length = f.2.2.2.2.2.2.1 ∧ sp_g f.2.2.2.2.2.1 f.2.2.2.2.2.2.1 = 1 ∧ ((f.2.1 = 63 ∧ (f.2.2.2.2.2.2.2.length : Int) = f.2.2.2.2.1 + 1 ∧ mr_h B F.length f.2.2.2.2.2.2.2) ∨ (f.2.1 ≠ 63 ∧ f.2.2.1 < 2 ∧ B 39 F.length = ((10 * f.2.2.1 + f.2.2.2.1 : Nat) : Int) ∧ f.2.2.2.1 < 10 ∧ (f.2.2.2.1 : Int) < σ 1 f.2.2.1 ∧ pt B (20 * d + (10 * f.2.2.1 + f.2.2.2.1)) (σ (14 + f.2.2.1) f.2.2.2.1).toNat = ol f.2.2.1 F))) ∧ mr_F d B σ F
theorem ola_ol {d t : Nat} {B σ : Nat → Nat → Int} {F : List sp_F} (h : mr_F d B σ F) : ola B (t : Int) F.length = ol t F := by
  induction F with
  | nil => rfl
  | cons f F ih =>
    obtain ⟨⟨h1, h2, h3, h4, h5, h6, h7⟩, h8⟩ := h
    rw [List.length_cons]
    simp only [ola, ol]
    rw [ih h8]
    rcases h7 with ⟨a, -⟩ | ⟨a, b, c, e, -⟩
    · rw [if_neg (by rw [h2, a]; simp), if_neg (by rw [a]; simp)]
    · by_cases q : f.2.2.1 = t
      · rw [if_pos ⟨by rw [h2]; exact a, by rw [c]; omega⟩, if_pos ⟨a, q⟩, c, h3, q]
      · rw [if_neg (fun x => q (by have := x.2; rw [c] at this; omega)), if_neg (fun x => q x.2)]
/-- a way goes on from a set's own -/
noncomputable def pc (d : Nat) (B σ : Nat → Nat → Int) (t : Nat) (p : List (Int × Int)) : Prop := p = [] ∨ ∃ (i : Nat) (m : Int), i < 10 ∧ (i : Int) < σ 1 t ∧ 0 ≤ m ∧ m < 512 ∧ p = (((10 * t + i : Nat) : Int), m) :: pt B (20 * d + (10 * t + i)) (σ (14 + t) i).toNat
theorem pc_det {d t : Nat} {B σ : Nat → Nat → Int} {p q : List (Int × Int)} (hp : pc d B σ t p) (hq : pc d B σ t q) (h : hdd t p = hdd t q) : p = q := by
  rcases hp with hp | ⟨i, m, p1, p2, p3, p4, p5⟩ <;> rcases hq with hq | ⟨j, l, q1, q2, q3, q4, q5⟩
  · rw [hp, hq]
  · rw [hp, q5] at h
    simp only [hdd] at h
    omega
  · rw [hq, p5] at h
    simp only [hdd] at h
    omega
  · rw [p5, q5] at h
    simp only [hdd] at h
    have e1 : i = j := by omega
    have e2 : m = l := by omega
    rw [p5, q5, e1, e2]
theorem pc_ol {d t : Nat} {B σ : Nat → Nat → Int} {F : List sp_F} (h : mr_F d B σ F) (hm : ∀ j, j < F.length → 0 ≤ B 40 j ∧ B 40 j < 512) : pc d B σ t (ol t F) := by
  induction F with
  | nil => exact Or.inl rfl
  | cons f F ih =>
    obtain ⟨⟨h1, h2, h3, h4, h5, h6, h7⟩, h8⟩ := h
    have i := ih h8 (fun j hj => hm j (by rw [List.length_cons]; omega))
    simp only [ol]
    split
    · next c =>
      rcases h7 with ⟨a, -⟩ | ⟨a, b, e, g, k, l⟩
      · exact absurd a c.1
      · have q := hm F.length (by simp)
        rw [h3] at q
        rw [← c.2]
        exact Or.inr ⟨f.2.2.2.1, f.2.2.2.2.1, g, k, q.1, q.2, by rw [l]⟩
    · exact i
/-- the sets, as they lie -/
noncomputable def mr_s (d : Nat) (B σ : Nat → Nat → Int) : Prop := ∀ t, t < 2 → (0 ≤ σ 1 t ∧ σ 1 t ≤ 10) ∧ ∀ i : Nat, (i : Int) < σ 1 t → B 27 (20 * d + (10 * t + i)) = σ (10 + t) i ∧ B 28 (20 * d + (10 * t + i)) = σ (12 + t) i ∧ B 29 (20 * d + (10 * t + i)) = σ (14 + t) i ∧ 0 ≤ σ (14 + t) i ∧ σ (16 + t) i = hdd t (pt B (20 * d + (10 * t + i)) (σ (14 + t) i).toNat) ∧ pc d B σ t (pt B (20 * d + (10 * t + i)) (σ (14 + t) i).toNat)
noncomputable def mr_c (d : Nat) (B σ : Nat → Nat → Int) : Prop := B 13 d = σ 0 0 ∧ B 14 d = σ 0 1 ∧ B 15 d = σ 0 2 ∧ B 16 d = σ 0 3
/-- the moves of a player on the way to an end, the latest first -/
noncomputable def wl (B : Nat → Nat → Int) (t f : Nat) : Nat → List (Int × Int)
  | 0 => []
  | n + 1 => if B 22 (f + n) / 10 = (t : Int) then (B 22 (f + n), B 23 (f + n)) :: wl B t f n else wl B t f n
theorem wl_keep {B C : Nat → Nat → Int} {t f n : Nat} (h : ∀ i, i < n → C 22 (f + i) = B 22 (f + i) ∧ C 23 (f + i) = B 23 (f + i)) : wl C t f n = wl B t f n := by
  induction n with
  | zero => rfl
  | succ n ih =>
    obtain ⟨h1, h2⟩ := h n (by omega)
    simp only [wl]
    rw [ih (fun i hi => h i (by omega)), h1, h2]
theorem wl_len (B : Nat → Nat → Int) (t f n : Nat) : (wl B t f n).length ≤ n := by
  induction n with
  | zero => exact Nat.le_refl _
  | succ n ih =>
    simp only [wl]
    split
    · rw [List.length_cons]; omega
    · omega
theorem wl_ola {B C : Nat → Nat → Int} {t f o : Nat} (hin : ∀ q, q < go_a B o → ∃ j, j < o ∧ B 38 j ≠ 63 ∧ go_a B j = q ∧ C 22 (f + q) = B 39 j ∧ C 23 (f + q) = B 40 j) : ∀ j, j ≤ o → wl C t f (go_a B j) = ola B (t : Int) j := by
  intro j
  induction j with
  | zero => intro _; rfl
  | succ j ih =>
    intro hj
    have i1 := ih (by omega)
    by_cases c : B 38 j = 63
    · have ea : go_a B (j + 1) = go_a B j := by
        simp only [go_a]
        rw [if_neg (by simp [c])]
        rfl
      rw [ea, i1]
      simp only [ola]
      rw [if_neg (fun q => q.1 c)]
    · have ea : go_a B (j + 1) = go_a B j + 1 := by
        simp only [go_a]
        rw [if_pos c]
      have m1 := go_a_mono B (j + 1) o hj
      obtain ⟨i, k1, k2, k3, k4, k5⟩ := hin (go_a B j) (by omega)
      have ei : i = j := by
        have ui : go_a B (i + 1) = go_a B i + 1 := by
          simp only [go_a]
          rw [if_pos k2]
        rcases Nat.lt_trichotomy i j with l | l | l
        · have m2 := go_a_mono B (i + 1) j l
          omega
        · exact l
        · have m2 := go_a_mono B (j + 1) i l
          omega
      rw [ei] at k4 k5
      rw [ea]
      simp only [wl, ola]
      rw [k4, k5, i1]
      by_cases q : B 39 j / 10 = (t : Int)
      · rw [if_pos q, if_pos ⟨c, q⟩]
      · rw [if_neg q, if_neg (fun x => q x.2)]
/-- the way to end j -/
noncomputable def mr_w (d : Nat) (B σ : Nat → Nat → Int) (j : Nat) : Prop := ∃ f l : Nat, B 20 (400 * d + j) = (f : Int) ∧ B 21 (400 * d + j) = (l : Int) ∧ 8000 * d ≤ f ∧ l ≤ 20 ∧ ((f + l : Nat) : Int) ≤ ((8000 * d : Nat) : Int) + B 24 d ∧ ∀ t, t < 2 → σ (22 + t) j = hdd t (wl B t f l) ∧ pc d B σ t (wl B t f l)
noncomputable def mr_e (d : Nat) (B σ : Nat → Nat → Int) : Prop := ∀ j : Nat, (j : Int) < σ 0 1 → B 17 (400 * d + j) = σ 20 j ∧ B 18 (400 * d + j) = σ 21 j ∧ mr_w d B σ j
/-- the moves of a player up to a deed, the latest first -/
noncomputable def ch (σ : Nat → Nat → Int) (t : Nat) : Nat → Int → List (Int × Int)
  | 0, _ => []
  | f + 1, d => if d = -1 then [] else (10 * (t : Int) + d / 512, d % 512) :: ch σ t f (σ (16 + t) (d / 512).toNat)
noncomputable def mr_n (d : Nat) (B σ : Nat → Nat → Int) : Prop := ∀ t, t < 2 → B 26 (2 * d + t) = σ 1 t
theorem ch_of {d t : Nat} {B σ : Nat → Nat → Int} (ht : t < 2) (hs : mr_s d B σ) : ∀ (n : Nat) (p : List (Int × Int)), p.length ≤ n → pc d B σ t p → ∀ f, n < f → p = ch σ t f (hdd t p) := by
  intro n
  induction n with
  | zero =>
    intro p hp hc f hf
    rcases hc with e | ⟨i, m, -, -, -, -, e⟩
    · rw [e]
      cases f with
      | zero => omega
      | succ f => exact (if_pos rfl).symm
    · rw [e, List.length_cons] at hp
      omega
  | succ n ih =>
    intro p hp hc f hf
    cases f with
    | zero => omega
    | succ f =>
      rcases hc with e | ⟨i, m, i1, i2, m1, m2, e⟩
      · rw [e]
        exact (if_pos rfl).symm
      · obtain ⟨-, -, -, -, s5, s6⟩ := (hs t ht).2 i i2
        rw [e, List.length_cons] at hp
        have q := ih _ (by omega) s6 f (by omega)
        have hv : hdd t ((((10 * t + i : Nat) : Int), m) :: pt B (20 * d + (10 * t + i)) (σ (14 + t) i).toNat) = (i : Int) * 512 + m := by
          simp only [hdd]
          omega
        rw [e, hv]
        simp only [ch]
        rw [if_neg (show ¬ (i : Int) * 512 + m = -1 by omega), show ((i : Int) * 512 + m) / 512 = (i : Int) by omega, show ((i : Int) * 512 + m) % 512 = m by omega, show ((i : Int)).toNat = i by omega, s5, ← q, show ((10 * t + i : Nat) : Int) = 10 * (t : Int) + (i : Int) by omega]
/-- the model's draft is σ, its open nodes F -/
noncomputable def mr_B (d : Nat) (B σ : Nat → Nat → Int) (F : List sp_F) : Prop := mr_c d B σ ∧ mr_n d B σ ∧ mr_s d B σ ∧ mr_e d B σ ∧ mr_F d B σ F
theorem wv_findSet {z : Nat → Int} {B : Nat → Nat → Int} {d p : Nat} {told : Int} {Q : Int → (Nat → Nat → Int) → Prop} (hd : d < 2) (hz : z 33 = (d : Int)) (hp : p < 2) (ht : 0 ≤ told ∧ told ≤ 9999) (hS : go_S B d)
    (hQ1 : ∀ s : Nat, (s : Int) < B 26 (2 * d + p) → sp_fd (fun i => B 27 (20 * d + (10 * p + i))) told (B 26 (2 * d + p)).toNat = (s : Int) → Q ((10 * p + s : Nat) : Int) B) (hQ0 : sp_fd (fun i => B 27 (20 * d + (10 * p + i))) told (B 26 (2 * d + p)).toNat = -1 → B 26 (2 * d + p) = 10 → Q (-1) B)
    (hQ2 : ∀ (s : Nat) (C : Nat → Nat → Int), sp_fd (fun i => B 27 (20 * d + (10 * p + i))) told (B 26 (2 * d + p)).toNat = -1 → (s : Int) = B 26 (2 * d + p) → s < 10 → (∀ k, k ≠ 26 → k ≠ 27 → k ≠ 28 → k ≠ 29 → C k = B k) → (∀ i, C 26 i = if i = 2 * d + p then (s : Int) + 1 else B 26 i) → (∀ i, C 27 i = if i = 20 * d + (10 * p + s) then told else B 27 i) → (∀ i, C 28 i = if i = 20 * d + (10 * p + s) then 0 else B 28 i) → (∀ i, C 29 i = if i = 20 * d + (10 * p + s) then -1 else B 29 i) → Q ((10 * p + s : Nat) : Int) C) : wp_findSet z B (p : Int) told Q := by
  obtain ⟨⟨n0, n1⟩, hS2⟩ := hS p hp
  have e1 : (2 * z 33 + (p : Int)).toNat = 2 * d + p := by omega
  refine ⟨⟨by omega, by omega⟩, fun x3 hx3 => ?_⟩
  rw [e1] at hx3
  subst hx3
  intro P hP
  have key : ∀ (k s : Nat), (B 26 (2 * d + p)).toNat - s = k → (s : Int) ≤ B 26 (2 * d + p) → sp_fd (fun i => B 27 (20 * d + (10 * p + i))) told s = -1 → P (s : Int) := by
    intro k
    induction k with
    | zero =>
      intro s hk hs hfd
      have es : B 26 (2 * d + p) = (s : Int) := by omega
      have fd : sp_fd (fun i => B 27 (20 * d + (10 * p + i))) told (B 26 (2 * d + p)).toNat = -1 := by rw [es, show ((s : Int)).toNat = s by omega]; exact hfd
      refine hP _ ⟨⟨by omega, by omega⟩, ⟨by omega, by omega⟩, fun _ => ⟨⟨by omega, by omega⟩, fun ne x4 hx4 => ?_, fun q => hQ0 fd (by omega)⟩, fun c => by omega⟩
      have ex : x4 = ((10 * p + s : Nat) : Int) := by omega
      have ei : (20 * z 33 + x4).toNat = 20 * d + (10 * p + s) := by omega
      refine ⟨⟨by omega, by omega⟩, fun C1 hC1 => ⟨⟨by omega, by omega⟩, fun C2 hC2 => ⟨⟨by omega, by omega⟩, fun C3 hC3 => ⟨⟨by omega, by omega⟩, fun C4 hC4 => ?_⟩⟩⟩⟩
      rw [ex]
      refine hQ2 s C4 fd es.symm (by omega) (fun k a b c e => ?_) (fun i => ?_) (fun i => ?_) (fun i => ?_) (fun i => ?_)
      · rw [hC4, hb_s_other a, hC3, hb_s_other e, hC2, hb_s_other c, hC1, hb_s_other b]
      · rw [hC4, lq_s_fun]
        unfold hz_u
        rw [e1, hC3, hb_s_other (by decide), hC2, hb_s_other (by decide), hC1, hb_s_other (by decide), es]
      · rw [hC4, hb_s_other (by decide), hC3, hb_s_other (by decide), hC2, hb_s_other (by decide), hC1, lq_s_fun]
        unfold hz_u
        rw [ei]
      · rw [hC4, hb_s_other (by decide), hC3, hb_s_other (by decide), hC2, lq_s_fun]
        unfold hz_u
        rw [ei, hC1, hb_s_other (by decide)]
      · rw [hC4, hb_s_other (by decide), hC3, lq_s_fun]
        unfold hz_u
        rw [ei, hC2, hb_s_other (by decide), hC1, hb_s_other (by decide)]
    | succ k ih =>
      intro s hk hs hfd
      have hn := (hS2 s (by omega)).1
      have ei : (20 * z 33 + 10 * (p : Int) + (s : Int)).toNat = 20 * d + (10 * p + s) := by omega
      refine hP _ ⟨⟨by omega, by omega⟩, ⟨by omega, by omega⟩, fun c => by omega, fun c => ⟨⟨by omega, by omega⟩, ?_⟩⟩
      rw [ei]
      refine ⟨⟨by omega, by omega⟩, ⟨by omega, by omega⟩, fun ne x4 hx4 => ?_, fun eq => ?_⟩
      · have ex : x4 = ((s + 1 : Nat) : Int) := by omega
        rw [ex]
        refine ih (s + 1) (by omega) (by omega) ?_
        simp only [sp_fd]
        rw [if_neg (by rw [hfd]; decide), if_neg ne]
      · have ex : 10 * (p : Int) + (s : Int) = ((10 * p + s : Nat) : Int) := by omega
        rw [ex]
        have f1 : sp_fd (fun i => B 27 (20 * d + (10 * p + i))) told (s + 1) = (s : Int) := by
          simp only [sp_fd]
          rw [if_neg (by rw [hfd]; decide), if_pos eq]
        exact hQ1 s (by omega) (by rw [sp_fd_stay (n := s + 1) (by rw [f1]; omega) (by omega), f1])
  exact key _ 0 rfl (by omega) rfl
