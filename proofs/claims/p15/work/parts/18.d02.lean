/-- the number that m digits from b on tell -/
noncomputable def tk_v (c : Nat → Int) (b : Nat) : Nat → Int
  | 0 => 0
  | m + 1 => 10 * tk_v c b m + c (b + m) - 48
/-- all words of a text, up to its end or to the first that is none -/
noncomputable def tk_T (c : Nat → Int) (n : Nat) (T : sp_T) (ps : Nat → Nat) (nt : Nat) : Prop := ps 0 = 0 ∧ 1 ≤ nt ∧ ∀ k, k < nt → ∃ b : Nat, cl_R c n (ps k) (T.1 k) b (ps (k + 1)) ∧ T.2.1 k = (b : Int) ∧ (T.1 k = 48 → T.2.2 k = tk_v c b (ps (k + 1) - b)) ∧ (k + 1 < nt → ¬ T.1 k = 0 ∧ ¬ T.1 k = 1) ∧ (k + 1 = nt → T.1 k = 0 ∨ T.1 k = 1)
theorem tk_run (P : Nat → Prop) (m p n : Nat) (h : p + m = n) : ∃ b, p ≤ b ∧ b ≤ n ∧ (∀ j, p ≤ j → j < b → P j) ∧ (b < n → ¬ P b) := by
  induction m generalizing p with
  | zero => exact ⟨p, Nat.le_refl p, by omega, fun j j1 j2 => by omega, fun q => by omega⟩
  | succ m ih =>
    by_cases c : P p
    · obtain ⟨b, b1, b2, b3, b4⟩ := ih (p + 1) (by omega)
      refine ⟨b, by omega, b2, fun j j1 j2 => ?_, b4⟩
      by_cases e : j = p
      · rw [e]; exact c
      · exact b3 j (by omega) j2
    · exact ⟨p, Nat.le_refl p, by omega, fun j j1 j2 => by omega, fun _ => c⟩
theorem tk_one (c : Nat → Int) {n p : Nat} (hp : p ≤ n) : ∃ w : Int × Nat × Nat, cl_R c n p w.1 w.2.1 w.2.2 ∧ w.2.2 ≤ n ∧ (¬ w.1 = 0 → p < w.2.2) := by
  obtain ⟨b, b1, b2, b3, b4⟩ := tk_run (fun j => c j = 32) (n - p) p n (by omega)
  by_cases e : b = n
  · exact ⟨(0, b, n), ⟨b1, b2, b3, b4, Or.inl ⟨e, rfl, rfl⟩⟩, Nat.le_refl n, fun q => absurd rfl q⟩
  · have bl : b < n := by omega
    by_cases d : cl_d (c b)
    · obtain ⟨q, q1, q2, q3, q4⟩ := tk_run (fun j => cl_d (c j)) (n - b) b n (by omega)
      have qb : b < q := by
        apply Classical.byContradiction
        intro h
        have : q = b := by omega
        rw [this] at q4
        exact q4 bl d
      by_cases f : q - b ≤ 4
      · exact ⟨(48, b, q), ⟨b1, b2, b3, b4, Or.inr (Or.inl ⟨bl, d, qb, q2, q3, q4, Or.inl ⟨f, rfl⟩⟩)⟩, q2, fun _ => by show p < q; omega⟩
      · exact ⟨(1, b, q), ⟨b1, b2, b3, b4, Or.inr (Or.inl ⟨bl, d, qb, q2, q3, q4, Or.inr ⟨by show 4 < q - b; omega, rfl⟩⟩)⟩, q2, fun _ => by show p < q; omega⟩
    · by_cases f : cl_w (c b)
      · exact ⟨(c b, b, b + 1), ⟨b1, b2, b3, b4, Or.inr (Or.inr ⟨bl, d, rfl, Or.inl ⟨f, rfl⟩⟩)⟩, bl, fun _ => by show p < b + 1; omega⟩
      · exact ⟨(1, b, b + 1), ⟨b1, b2, b3, b4, Or.inr (Or.inr ⟨bl, d, rfl, Or.inr ⟨f, rfl⟩⟩)⟩, bl, fun _ => by show p < b + 1; omega⟩
noncomputable def tk_ps (W : Nat → Int × Nat × Nat) : Nat → Nat
  | 0 => 0
  | k + 1 => (W (tk_ps W k)).2.2
theorem tk_ex (c : Nat → Int) (n : Nat) : ∃ (T : sp_T) (ps : Nat → Nat) (nt : Nat), tk_T c n T ps nt := by
  have h : ∀ p : Nat, ∃ w : Int × Nat × Nat, p ≤ n → cl_R c n p w.1 w.2.1 w.2.2 ∧ w.2.2 ≤ n ∧ (¬ w.1 = 0 → p < w.2.2) := by
    intro p
    by_cases hp : p ≤ n
    · obtain ⟨w, hw⟩ := tk_one c hp
      exact ⟨w, fun _ => hw⟩
    · exact ⟨(0, 0, 0), fun q => absurd q hp⟩
  obtain ⟨W, hW⟩ := Classical.axiomOfChoice h
  have le : ∀ k, tk_ps W k ≤ n := by
    intro k
    induction k with
    | zero => exact Nat.zero_le n
    | succ k ih => exact (hW _ ih).2.1
  obtain ⟨b, b1, b2, b3, b4⟩ := tk_run (fun j => ¬ ((W (tk_ps W j)).1 = 0 ∨ (W (tk_ps W j)).1 = 1)) (n + 1) 0 (n + 1) (by omega)
  have bl : b < n + 1 := by
    apply Classical.byContradiction
    intro hc
    have ge : ∀ k, k ≤ n + 1 → k ≤ tk_ps W k := by
      intro k
      induction k with
      | zero => intro _; exact Nat.zero_le _
      | succ k ih =>
        intro hk
        have h1 := ih (by omega)
        have h2 := (hW _ (le k)).2.2 (fun q => b3 k (by omega) (by omega) (Or.inl q))
        show k + 1 ≤ (W (tk_ps W k)).2.2
        omega
    have h1 := ge (n + 1) (Nat.le_refl _)
    have h2 := le (n + 1)
    omega
  refine ⟨(fun k => (W (tk_ps W k)).1, fun k => ((W (tk_ps W k)).2.1 : Int), fun k => tk_v c (W (tk_ps W k)).2.1 (tk_ps W (k + 1) - (W (tk_ps W k)).2.1)), tk_ps W, b + 1, rfl, by omega, fun k hk => ⟨(W (tk_ps W k)).2.1, (hW _ (le k)).1, rfl, fun _ => rfl, fun q => ?_, fun q => ?_⟩⟩
  · have := b3 k (by omega) (by omega)
    exact ⟨fun q => this (Or.inl q), fun q => this (Or.inr q)⟩
  · have e : k = b := by omega
    subst e
    apply Classical.byContradiction
    intro q
    exact b4 bl q
section CW
variable {L : List Nat} {K : Nat → cw_K} {r : Nat → Nat → Nat} {z A : Nat → Nat → Int} {W : Nat}
/-- a number's value: at most as many nines as it has digits, four at most -/
theorem wv_c10_takeNumber {p : Nat} (hT : cl_T L K r z A W) (hp : z W 3 = (p : Int)) (h5 : z W 5 = (p : Int)) (hpn : (p : Int) < z W 1) {Q : (Nat → Nat → Int) → Prop} (hQ : ∀ (z' : Nat → Nat → Int) (q : Nat), (∀ a, a ≠ W → z' a = z a) → z' W 1 = z W 1 → z' W 3 = z W 3 → z' W 5 = (q : Int) → (0 ≤ z' W 4 ∧ z' W 4 ≤ 9999) → p ≤ q → (q : Int) ≤ z W 1 → (∀ j, p ≤ j → j < q → cl_d (A (r W 0) j)) → ((q : Int) < z W 1 → ¬ cl_d (A (r W 0) q)) → ((q - p ≤ 4 ∧ z' W 2 = 48) ∨ (4 < q - p ∧ z' W 2 = 1)) → (q - p ≤ 4 → z' W 4 = tk_v (A (r W 0)) p (q - p)) → Q z') : wp_c10_takeNumber L K z r A W Q := by
  obtain ⟨t1, t2, t3, t4, t5, t6⟩ := hT
  refine ⟨t1, fun z1 e1 => ?_⟩
  have hnine : ∀ m : Nat, m ≤ 4 → (10 : Int) ^ m ≤ 10000 := by
    intro m hm
    have : m = 0 ∨ m = 1 ∨ m = 2 ∨ m = 3 ∨ m = 4 := by omega
    rcases this with rfl | rfl | rfl | rfl | rfl <;> decide
  have ex : ∀ (z2 : Nat → Nat → Int) (q : Nat), (∀ a, a ≠ W → z2 a = z a) → z2 W 1 = z W 1 → z2 W 3 = z W 3 → z2 W 5 = (q : Int) → (0 ≤ z2 W 4 ∧ z2 W 4 ≤ 9999) → p ≤ q → (q : Int) ≤ z W 1 → (∀ j, p ≤ j → j < q → cl_d (A (r W 0) j)) → ((q : Int) < z W 1 → ¬ cl_d (A (r W 0) q)) → (q - p ≤ 4 → z2 W 4 = tk_v (A (r W 0)) p (q - p)) → wp_c10_takeNumber_94 L K z2 r A W Q := by
    intro z2 q o a1 a3 a5 a4 pq qn hd hn hv
    have fin : ∀ k : Int, ((q - p ≤ 4 ∧ k = 48) ∨ (4 < q - p ∧ k = 1)) → wp_c10_takeNumber_114 L K z2 r A k W Q := by
      intro k hk
      refine ⟨t1, fun z3 e3 => ?_⟩
      refine hQ z3 q (fun a ha => by rw [e3, cw_s_a ha]; exact o a ha) (by rw [e3, cw_s_k (by decide)]; exact a1) (by rw [e3, cw_s_k (by decide)]; exact a3) (by rw [e3, cw_s_k (by decide)]; exact a5) (by rw [e3, cw_s_k (by decide)]; exact a4) pq qn hd hn ?_ (fun q4 => by rw [e3, cw_s_k (by decide)]; exact hv q4)
      rw [e3, cw_s_same]
      exact hk
    refine ⟨t1, by omega, fun c => fin 1 (by omega), fun c => fin 48 (by omega)⟩
  intro P hP
  have key : ∀ (k m : Nat) (z2 : Nat → Nat → Int), (m + p : Nat) + (k : Int) = z W 1 → (∀ a, a ≠ W → z2 a = z a) → z2 W 1 = z W 1 → z2 W 3 = z W 3 → z2 W 5 = ((p + m : Nat) : Int) → (0 ≤ z2 W 4 ∧ z2 W 4 < 10 ^ (min m 4)) → (∀ j, p ≤ j → j < p + m → cl_d (A (r W 0) j)) → z2 W 4 = tk_v (A (r W 0)) p (min m 4) → P z2 := by
    intro k
    induction k with
    | zero =>
      intro m z2 hk o a1 a3 a5 a4 hd hv
      have h9 := hnine (min m 4) (by omega)
      refine hP z2 ⟨t1, by omega, by omega, fun _ => ?_, fun c => by omega⟩
      exact ex z2 (p + m) o a1 a3 a5 (by omega) (by omega) (by omega) hd (fun c => by omega) (fun q4 => by rw [hv, show min m 4 = p + m - p by omega])
    | succ k ih =>
      intro m z2 hk o a1 a3 a5 a4 hd hv
      have h9 := hnine (min m 4) (by omega)
      have e5 : (z2 W 5).toNat = p + m := by omega
      have hc := t6 (p + m)
      have stop : ¬ cl_d (A (r W 0) (p + m)) → wp_c10_takeNumber_94 L K z2 r A W Q := fun c => ex z2 (p + m) o a1 a3 a5 (by omega) (by omega) (by omega) hd (fun _ => c) (fun q4 => by rw [hv, show min m 4 = p + m - p by omega])
      refine hP z2 ⟨t1, by omega, by omega, fun c => by omega, fun c => ⟨t2, by omega, by rw [e5]; omega, fun c1 => stop (by rw [e5] at c1; unfold cl_d; omega), fun c1 => ⟨by omega, by rw [e5]; omega, fun c2 => stop (by rw [e5] at c2; unfold cl_d; omega), fun c2 => ⟨by omega, fun c3 => ⟨t1, fun z3 e3 => ?_⟩, fun c3 => ⟨by omega, fun x xr xe z3 e3 => ⟨t1, fun z4 e4 => ?_⟩⟩⟩⟩⟩⟩
      · rw [e5] at c1 c2
        refine ih (m + 1) z3 (by omega) (fun a ha => by rw [e3, cw_s_a ha]; exact o a ha) (by rw [e3, cw_s_k (by decide)]; exact a1) (by rw [e3, cw_s_k (by decide)]; exact a3) (by rw [e3, cw_s_same]; omega) ?_ (fun j j1 j2 => ?_) (by rw [e3, cw_s_k (by decide), show min (m + 1) 4 = min m 4 by omega]; exact hv)
        · rw [e3, cw_s_k (by decide), show min (m + 1) 4 = min m 4 by omega]; exact a4
        · by_cases hj : j = p + m
          · rw [hj]; unfold cl_d; omega
          · exact hd j j1 (by omega)
      · rw [e5] at c1 c2 xe
        have hm : m < 4 := by omega
        have p10 : (10 : Int) ^ (min (m + 1) 4) = 10 * 10 ^ (min m 4) := by
          rw [show min (m + 1) 4 = min m 4 + 1 by omega, Int.pow_succ, Int.mul_comm]
        have hx : x = 10 * z2 W 4 + A (r W 0) (p + m) - 48 := by omega
        refine ih (m + 1) z4 (by omega) (fun a ha => by rw [e4, cw_s_a ha, e3, cw_s_a ha]; exact o a ha) (by rw [e4, cw_s_k (by decide), e3, cw_s_k (by decide)]; exact a1) (by rw [e4, cw_s_k (by decide), e3, cw_s_k (by decide)]; exact a3) (by rw [e4, cw_s_same, e3, cw_s_k (by decide)]; omega) ?_ (fun j j1 j2 => ?_) (by rw [e4, cw_s_k (by decide), e3, cw_s_same, hx, hv, show min (m + 1) 4 = m + 1 by omega, show min m 4 = m by omega]; rfl)
        · rw [e4, cw_s_k (by decide), e3, cw_s_same, p10, hx]
          omega
        · by_cases hj : j = p + m
          · rw [hj]; unfold cl_d; omega
          · exact hd j j1 (by omega)
  refine key (z W 1 - p).toNat 0 z1 (by omega) (fun a ha => by rw [e1, cw_s_a ha]) (by rw [e1, cw_s_k (by decide)]) (by rw [e1, cw_s_k (by decide)]) (by rw [e1, cw_s_k (by decide)]; exact h5) ?_ (fun j j1 j2 => by omega) (by rw [e1, cw_s_same]; rfl)
  rw [e1, cw_s_same]
  exact ⟨by omega, by decide⟩
theorem wv_c10_advance {p : Nat} (hT : cl_T L K r z A W) (h5 : z W 5 = (p : Int)) (hpn : (p : Int) ≤ z W 1) {Q : (Nat → Nat → Int) → Prop} (hQ : ∀ (z' : Nat → Nat → Int) (b q : Nat), (∀ a, a ≠ W → z' a = z a) → cl_T L K r z' A W → z' W 1 = z W 1 → z' W 3 = (b : Int) → z' W 5 = (q : Int) → cl_R (A (r W 0)) (z W 1).toNat p (z' W 2) b q → hz_rI (z' W 2) → (z' W 2 = 48 → z' W 4 = tk_v (A (r W 0)) b (q - b)) → Q z') : wp_c10_advance L K z r A W Q := by
  have hT0 := hT
  obtain ⟨t1, t2, t3, t4, t5, t6⟩ := hT
  have ex : ∀ (z1 : Nat → Nat → Int) (b : Nat), (∀ a, a ≠ W → z1 a = z a) → z1 W 1 = z W 1 → z1 W 5 = (b : Int) → z1 W 4 = z W 4 → p ≤ b → (b : Int) ≤ z W 1 → (∀ j, p ≤ j → j < b → A (r W 0) j = 32) → ((b : Int) < z W 1 → ¬ A (r W 0) b = 32) → wp_c10_advance_38 L K z1 r A W Q := by
    intro z1 b o a1 a5 a4 pb bn hs hb
    have hc := t6 b
    refine ⟨t1, fun z2 e2 => ?_⟩
    have b1 : z2 W 1 = z W 1 := by rw [e2, cw_s_k (by decide)]; exact a1
    have b5 : z2 W 5 = (b : Int) := by rw [e2, cw_s_k (by decide)]; exact a5
    have b3 : z2 W 3 = (b : Int) := by rw [e2, cw_s_same]; exact a5
    have b4 : z2 W 4 = z W 4 := by rw [e2, cw_s_k (by decide)]; exact a4
    have bo : ∀ a, a ≠ W → z2 a = z a := fun a ha => by rw [e2, cw_s_a ha]; exact o a ha
    have T2 : cl_T L K r z2 A W := ⟨t1, t2, t3, by rw [b1]; exact t4, by rw [b4]; exact t5, t6⟩
    refine ⟨by omega, by omega, fun c => ?_, fun c z3 e3 => ?_⟩
    · refine wv_c10_takeNumber T2 b3 b5 (by omega) (fun z3 q o3 d1 d3 d5 d4 bq qn hd hn hk hv => ?_)
      have T3 : cl_T L K r z3 A W := ⟨t1, t2, t3, by rw [d1, b1]; exact t4, d4, t6⟩
      rw [b1] at qn hn
      refine ⟨by omega, by omega, fun c2 => ?_, fun c2 => ⟨t2, by omega, ?_⟩⟩
      · have hdb : cl_d (A (r W 0) b) := hd b (Nat.le_refl b) (by omega)
        refine hQ z3 b q (fun a ha => by rw [o3 a ha]; exact bo a ha) T3 (by rw [d1, b1]) (by rw [d3, b3]) d5 ⟨pb, by omega, hs, fun c3 => hb (by omega), Or.inr (Or.inl ⟨by omega, hdb, by omega, by omega, hd, fun c3 => hn (by omega), hk⟩)⟩ (by omega) (fun q48 => hv (by omega))
      · have eq : q = b := by omega
        subst eq
        rw [show (z3 W 5).toNat = q by omega]
        have nd : ¬ cl_d (A (r W 0) q) := hn (by omega)
        have last : ∀ k : Int, ((cl_w (A (r W 0) q) ∧ k = A (r W 0) q) ∨ (¬ cl_w (A (r W 0) q) ∧ k = 1)) → wp_c10_advance_107 L K z3 r A W k W Q := by
          intro k hk9
          refine ⟨t1, fun z4 e4 => ⟨t1, fun z5 e5 => ?_⟩⟩
          have f1 : z5 W 1 = z W 1 := by rw [e5, cw_s_k (by decide), e4, cw_s_k (by decide), d1, b1]
          have f5 : z5 W 5 = ((q + 1 : Nat) : Int) := by rw [e5, cw_s_same, e4, cw_s_k (by decide), d5]; omega
          have f3 : z5 W 3 = (q : Int) := by rw [e5, cw_s_k (by decide), e4, cw_s_k (by decide), d3, b3]
          have f2 : z5 W 2 = k := by rw [e5, cw_s_k (by decide), e4, cw_s_same]
          have f4 : z5 W 4 = z3 W 4 := by rw [e5, cw_s_k (by decide), e4, cw_s_k (by decide)]
          refine hQ z5 q (q + 1) (fun a ha => by rw [e5, cw_s_a ha, e4, cw_s_a ha, o3 a ha]; exact bo a ha) ⟨t1, t2, t3, by rw [f1]; exact t4, by rw [f4]; exact d4, t6⟩ f1 f3 f5 ?_ (by rw [f2]; omega) (fun q48 => by rw [f2] at q48; unfold cl_w at hk9; omega)
          rw [f2]
          exact ⟨pb, by omega, hs, fun c3 => hb (by omega), Or.inr (Or.inr ⟨by omega, nd, rfl, hk9⟩)⟩
        refine wq_c10_isWord (by omega) (fun hw => ⟨by decide, fun c3 => by omega, fun _ => ⟨by omega, last _ (Or.inl ⟨hw, rfl⟩)⟩⟩) (fun hw => ⟨by decide, fun _ => last 1 (Or.inr ⟨hw, rfl⟩), fun c3 => absurd rfl c3⟩)
    · have f1 : z3 W 1 = z W 1 := by rw [e3, cw_s_k (by decide), b1]
      have f2 : z3 W 2 = 0 := by rw [e3, cw_s_same]
      have bn2 : b = (z W 1).toNat := by omega
      refine hQ z3 b b (fun a ha => by rw [e3, cw_s_a ha]; exact bo a ha) ⟨t1, t2, t3, by rw [f1]; exact t4, by rw [e3, cw_s_k (by decide), b4]; exact t5, t6⟩ f1 (by rw [e3, cw_s_k (by decide), b3]) (by rw [e3, cw_s_k (by decide), b5]) ?_ (by rw [f2]; decide) (fun q48 => by omega)
      rw [f2]
      exact ⟨pb, by omega, hs, fun c3 => by omega, Or.inl ⟨bn2, rfl, bn2⟩⟩
  intro P hP
  have key : ∀ (k b : Nat) (z1 : Nat → Nat → Int), (b : Int) + (k : Int) = z W 1 → p ≤ b → (∀ a, a ≠ W → z1 a = z a) → z1 W 1 = z W 1 → z1 W 5 = (b : Int) → z1 W 4 = z W 4 → (∀ j, p ≤ j → j < b → A (r W 0) j = 32) → P z1 := by
    intro k
    induction k with
    | zero =>
      intro b z1 hk pb o a1 a5 a4 hs
      refine hP z1 ⟨t1, by omega, by omega, fun _ => ?_, fun c => by omega⟩
      exact ex z1 b o a1 a5 a4 pb (by omega) hs (fun c => by omega)
    | succ k ih =>
      intro b z1 hk pb o a1 a5 a4 hs
      have e5 : (z1 W 5).toNat = b := by omega
      have hc := t6 b
      refine hP z1 ⟨t1, by omega, by omega, fun c => by omega, fun c => ⟨t2, by omega, by rw [e5]; omega, fun c1 => ?_, fun c1 z2 e2 => ?_⟩⟩
      · rw [e5] at c1
        exact ex z1 b o a1 a5 a4 pb (by omega) hs (fun _ => c1)
      · rw [e5] at c1
        refine ih (b + 1) z2 (by omega) (by omega) (fun a ha => by rw [e2, cw_s_a ha]; exact o a ha) (by rw [e2, cw_s_k (by decide)]; exact a1) (by rw [e2, cw_s_same, a5]; omega) (by rw [e2, cw_s_k (by decide)]; exact a4) (fun j j1 j2 => ?_)
        by_cases hj : j = b
        · rw [hj]; exact c1
        · exact hs j j1 (by omega)
  exact key (z W 1 - p).toNat p z (by omega) (Nat.le_refl p) (fun _ _ => rfl) rfl h5 rfl (fun j j1 j2 => by omega)
theorem wv_c10_goToStart (hT : cl_T L K r z A W) {Q : (Nat → Nat → Int) → Prop} (hQ : ∀ (z' : Nat → Nat → Int) (b q : Nat), (∀ a, a ≠ W → z' a = z a) → cl_T L K r z' A W → z' W 1 = z W 1 → z' W 3 = (b : Int) → z' W 5 = (q : Int) → cl_R (A (r W 0)) (z W 1).toNat 0 (z' W 2) b q → hz_rI (z' W 2) → (z' W 2 = 48 → z' W 4 = tk_v (A (r W 0)) b (q - b)) → Q z') : wp_c10_goToStart L K z r A W Q := by
  obtain ⟨t1, t2, t3, t4, t5, t6⟩ := hT
  refine ⟨t1, fun z1 e1 => ?_⟩
  have a1 : z1 W 1 = z W 1 := by rw [e1, cw_s_k (by decide)]
  have T1 : cl_T L K r z1 A W := ⟨t1, t2, t3, by rw [a1]; exact t4, by rw [e1, cw_s_k (by decide)]; exact t5, t6⟩
  refine wv_c10_advance (p := 0) T1 (by rw [e1, cw_s_same]; rfl) (by omega) (fun z2 b q o T2 d1 d3 d5 hR hk hv => ?_)
  rw [a1] at hR d1
  exact hQ z2 b q (fun a ha => by rw [o a ha, e1, cw_s_a ha]) T2 d1 d3 d5 hR hk hv
end CW
