/-- products -/
noncomputable def cPm (f : Nat → Int) : Nat → Int
  | 0 => 1
  | n + 1 => cPm f n * f n
theorem cPm_4 {f : Nat → Int} {n : Nat} (h : ∀ i, i < n → 1 ≤ f i ∧ f i ≤ 4) : 1 ≤ cPm f n ∧ cPm f n ≤ 4 ^ n := by
  induction n with
  | zero => exact ⟨Int.le_refl 1, Int.le_refl 1⟩
  | succ n ih =>
    obtain ⟨h1, h2⟩ := ih (fun i hi => h i (by omega))
    have h3 := h n (by omega)
    simp only [cPm]
    refine ⟨?_, ?_⟩
    · have : 1 * 1 ≤ cPm f n * f n := Int.mul_le_mul h1 h3.1 (by omega) (by omega)
      omega
    · rw [Int.pow_succ]
      exact Int.mul_le_mul h2 h3.2 (by omega) (by omega)
theorem cPm_sum {f : Nat → Int} {n : Nat} (h : ∀ i, i < n → 1 ≤ f i ∧ f i ≤ 4) : ∃ e : Nat, cS f n = (n : Int) + (e : Int) ∧ (4 : Int) ^ e ≤ cPm f n * cPm f n * cPm f n := by
  induction n with
  | zero => exact ⟨0, rfl, by simp only [cPm]; decide⟩
  | succ n ih =>
    obtain ⟨e, he, hp⟩ := ih (fun i hi => h i (by omega))
    have h1 := (cPm_4 (f := f) (n := n) (fun i hi => h i (by omega))).1
    have h3 := h n (by omega)
    have p0 : 0 ≤ cPm f n * cPm f n * cPm f n := Int.mul_nonneg (Int.mul_nonneg (by omega) (by omega)) (by omega)
    have go : ∀ (k : Nat) (x : Int), f n = x → x = (k : Int) + 1 → (4 : Int) ^ k ≤ x * x * x → ∃ e : Nat, cS f (n + 1) = ((n + 1 : Nat) : Int) + (e : Int) ∧ (4 : Int) ^ e ≤ cPm f (n + 1) * cPm f (n + 1) * cPm f (n + 1) := by
      intro k x ex ek hk
      refine ⟨e + k, ?_, ?_⟩
      · simp only [cS]
        omega
      · simp only [cPm]
        rw [ex, Int.pow_add]
        have q := Int.mul_le_mul hp hk (Int.le_of_lt (Int.pow_pos (by decide))) p0
        have r1 : cPm f n * x * (cPm f n * x) * (cPm f n * x) = cPm f n * cPm f n * cPm f n * (x * x * x) := by grind
        rw [r1]
        exact q
    have c : f n = 1 ∨ f n = 2 ∨ f n = 3 ∨ f n = 4 := by omega
    rcases c with c | c | c | c
    · exact go 0 1 c rfl (by decide)
    · exact go 1 2 c rfl (by decide)
    · exact go 2 3 c rfl (by decide)
    · exact go 3 4 c rfl (by decide)
/-- 64 plans at most: 19 moves at most in ten sets -/
theorem cPm_19 {f : Nat → Int} {n : Nat} (hn : n ≤ 10) (h : ∀ i, i < n → 1 ≤ f i ∧ f i ≤ 4) (hp : cPm f n ≤ 64) : cS f n ≤ 19 := by
  obtain ⟨e, he, h4⟩ := cPm_sum h
  have h1 := (cPm_4 h).1
  have q1 : cPm f n * cPm f n ≤ 64 * 64 := Int.mul_le_mul hp hp (by omega) (by omega)
  have q2 : cPm f n * cPm f n * cPm f n ≤ 64 * 64 * 64 := Int.mul_le_mul q1 hp (by omega) (by omega)
  have e9 : e ≤ 9 := by
    apply Classical.byContradiction
    intro hc
    have q3 : (4 : Int) ^ 10 ≤ 4 ^ e := by
      rw [show e = 10 + (e - 10) by omega, Int.pow_add]
      have : 0 < (4 : Int) ^ (e - 10) := Int.pow_pos (by decide)
      have q4 : (4 : Int) ^ 10 * 1 ≤ 4 ^ 10 * 4 ^ (e - 10) := Int.mul_le_mul_of_nonneg_left (by omega) (by decide)
      omega
    have q5 : (4 : Int) ^ 10 = 1048576 := by decide
    omega
  omega
theorem cS_upd {f g : Nat → Int} {n i : Nat} {x : Int} (hi : i < n) (h : ∀ k, k < n → k ≠ i → g k = f k) (hx : g i ≤ f i + x) : cS g n ≤ cS f n + x := by
  induction n with
  | zero => omega
  | succ n ih =>
    simp only [cS]
    by_cases e : i = n
    · subst e
      have := cS_congr (f := g) (g := f) (n := i) (fun k hk => h k (by omega) (by omega))
      omega
    · have := ih (by omega) (fun k hk hne => h k (by omega) hne)
      have := h n (by omega) (fun q => e q.symm)
      omega
section CJ
variable {L : List Nat} {K : Nat → cw_K} {r : Nat → Nat → Nat} {z A : Nat → Nat → Int} {w : Nat → Nat × Nat} {ρ : Nat → Nat} {z0 A0 : Nat → Nat → Int} {R s : Nat} {E : Int}
theorem wq_c7_countPlansE (hs : cw_O L K 7 s) (h7 : cg_7 L K r w ρ) (hz : 0 ≤ z s 0 ∧ z s 0 ≤ 10) (hm : ∀ i : Nat, (i : Int) < z s 0 → 1 ≤ A (r s 2) i ∧ A (r s 2) i ≤ 4) {Q : Int → Prop} (hQ : hz_rI (cPm (A (r s 2)) (z s 0).toNat) → Q (cPm (A (r s 2)) (z s 0).toNat)) : wp_c7_countPlans L K z r A s Q := by
  obtain ⟨-, ⟨b1, b2, -, -⟩, -, -, -, -⟩ := h7 s hs
  have rng : ∀ n : Nat, (n : Int) ≤ z s 0 → 1 ≤ cPm (A (r s 2)) n ∧ cPm (A (r s 2)) n ≤ 1048576 := by
    intro n hn
    have q := cPm_4 (f := A (r s 2)) (n := n) (fun i hi => hm i (by omega))
    have p : (4 : Int) ^ n ≤ 1048576 := by
      have hn10 : n ≤ 10 := by omega
      have e : (1048576 : Int) = 4 ^ n * 4 ^ (10 - n) := by
        rw [← Int.pow_add, show n + (10 - n) = 10 by omega]
        decide
      have q1 : 0 < (4 : Int) ^ (10 - n) := Int.pow_pos (by decide)
      have q2 : (4 : Int) ^ n * 1 ≤ 4 ^ n * 4 ^ (10 - n) := Int.mul_le_mul_of_nonneg_left (by omega) (Int.le_of_lt (Int.pow_pos (by decide)))
      omega
    exact ⟨q.1, by omega⟩
  intro PP hPP
  have key : ∀ (k n : Nat) (v x : Int), n + (k : Int) = z s 0 → x = (n : Int) → v = cPm (A (r s 2)) n → PP v x := by
    intro k
    induction k with
    | zero =>
      intro n v x hk ex ev
      have en : n = (z s 0).toNat := by omega
      have := rng n (by omega)
      refine hPP v x ⟨hs, by omega, by omega, fun _ => ?_, fun c => by omega⟩
      rw [ev, en]
      rw [en] at this
      exact hQ (by omega)
    | succ k ih =>
      intro n v x hk ex ev
      refine hPP v x ⟨hs, by omega, by omega, fun c => by omega, fun _ => ⟨b1, by omega, fun v1 hv1 e1 x1 ex1 => ih (n + 1) v1 x1 (by omega) (by omega) ?_⟩⟩
      have q := rng (n + 1) (by omega)
      simp only [cPm] at q ⊢
      rw [show x.toNat = n by omega, ev] at e1
      generalize cPm (A (r s 2)) n * A (r s 2) n = t at *
      omega
  exact key (z s 0).toNat 0 1 0 (by omega) rfl rfl
theorem wq_c7_lineOf {d : Int} (hs : cw_O L K 7 s) (h7 : cg_7 L K r w ρ) (hd : d = -1 ∨ (0 ≤ d ∧ d / 512 < 10)) {Q : Int → Prop} (h0 : d = -1 → Q 0) (h1 : 0 ≤ d → Q (A (r s 6) (d / 512).toNat + d % 512)) : wp_c7_lineOf L K z r A s d Q := by
  obtain ⟨-, -, -, -, ⟨a1, a2, -, -⟩, -⟩ := h7 s hs
  refine ⟨by omega, fun c => ⟨hs, wq_c7_setOf (by omega) (fun d0 => ⟨a1, by omega, wq_c7_moveOf (by omega) (fun _ => h1 d0) d0⟩) (by omega)⟩, fun c => h0 c⟩
theorem wq_c7_lineOfF {d : Int} (h7 : cg_7 L K r w ρ) (F : cs_F L K r z A s) (hd : cq_d r z A s (fun _ => False) d) {Q : Int → Prop} (hQ : ∀ l : Int, 0 ≤ l → l < 20 → Q l) : wp_c7_lineOf L K z r A s d Q := by
  obtain ⟨f1, f2, f3, f4⟩ := F
  refine wq_c7_lineOf f1 h7 ?_ (fun _ => hQ 0 (by decide) (by decide)) (fun d0 => ?_)
  · rcases hd with h | ⟨h, h', -⟩
    · exact Or.inl h
    · exact Or.inr ⟨h, by omega⟩
  · rcases hd with h | ⟨h, h', h'' | h''⟩
    · omega
    · exact h''.elim
    · obtain ⟨g1, g2, g3, g4⟩ := f4 (d / 512).toNat (by omega)
      exact hQ _ (by omega) (by omega)
theorem wq_c7_numberLines (hs : cw_O L K 7 s) (hdg : ∀ a, cw_O L K 0 a → w (r a 0) = (a, 0)) (h7 : cg_7 L K r w ρ) (hJ : cJ L K r z A) (hz : 0 ≤ z s 0 ∧ z s 0 ≤ 10) (hm : ∀ i : Nat, (i : Int) < z s 0 → 1 ≤ A (r s 2) i ∧ A (r s 2) i ≤ 4) (hd : ∀ i : Nat, (i : Int) < z s 0 → A (r s 4) i = -1 ∨ (0 ≤ A (r s 4) i ∧ A (r s 4) i / 512 < (i : Int) ∧ A (r s 4) i % 512 < A (r s 2) (A (r s 4) i / 512).toNat)) (h19 : cS (A (r s 2)) (z s 0).toNat ≤ 19) {Q : (Nat → Nat → Int) → (Nat → Nat → Int) → Prop} (hQ : ∀ z' A' : Nat → Nat → Int, (∀ a, a ≠ s → z' a = z a) → z' s 0 = z s 0 → (∀ a, a ≠ r s 6 → a ≠ r s 7 → A' a = A a) → cJ L K r z' A' → cs_F L K r z' A' s → Q z' A') : wp_c7_numberLines L K z r A s Q := by
  obtain ⟨⟨a1, a2, a3, a4⟩, ⟨b1, b2, b3, b4⟩, ⟨c1, c2, c3, c4⟩, ⟨e1, e2, e3, e4⟩, ⟨f1, f2, f3, f4⟩, ⟨g1, g2, g3, g4⟩⟩ := h7 s hs
  have n67 : r s 6 ≠ r s 7 := cg_ne f3 g3 (by simp)
  have n26 : r s 2 ≠ r s 6 := cg_ne b3 f3 (by simp)
  have n27 : r s 2 ≠ r s 7 := cg_ne b3 g3 (by simp)
  have n46 : r s 4 ≠ r s 6 := cg_ne e3 f3 (by simp)
  have n47 : r s 4 ≠ r s 7 := cg_ne e3 g3 (by simp)
  have dg6 := cg_dig hdg f3 hs (by decide)
  have dg7 := cg_dig hdg g3 hs (by decide)
  have sm : ∀ n : Nat, (n : Int) ≤ z s 0 → 0 ≤ cS (A (r s 2)) n ∧ cS (A (r s 2)) n ≤ 19 := by
    intro n hn
    have q1 := cS_nn (f := A (r s 2)) (n := n) (fun i hi => by have := hm i (by omega); omega)
    have q2 := cS_mono (f := A (r s 2)) (m := n) (n := (z s 0).toNat) (fun i hi => by have := hm i (by omega); omega) (by omega)
    omega
  refine ⟨hs, fun z1 ez1 => ?_⟩
  intro PP hPP
  have key : ∀ (k n : Nat) (z2 A2 : Nat → Nat → Int) (x : Int), n + (k : Int) = z s 0 → x = (n : Int) → (∀ a, a ≠ s → z2 a = z a) → z2 s 0 = z s 0 → z2 s 5 = 1 + cS (A (r s 2)) n → (∀ a, a ≠ r s 6 → a ≠ r s 7 → A2 a = A a) → cJ L K r z2 A2 → (∀ i : Nat, i < n → (1 ≤ A2 (r s 6) i ∧ A2 (r s 6) i + A (r s 2) i ≤ z2 s 5) ∧ (0 ≤ A2 (r s 7) i ∧ A2 (r s 7) i < A2 (r s 6) i)) → PP z2 A2 x := by
    intro k
    induction k with
    | zero =>
      intro n z2 A2 x hk ex o2 s0 s5 oA J2 hi2
      have q := sm n (by omega)
      refine hPP z2 A2 x ⟨hs, by omega, by omega, fun _ => hQ z2 A2 o2 s0 oA J2 ⟨hs, by omega, by omega, fun i hi => ?_⟩, fun c => by omega⟩
      have h1 := hi2 i (by omega)
      have h2 := hm i (by omega)
      have h3 := hd i (by omega)
      rw [oA _ n26 n27, oA _ n46 n47]
      refine ⟨h2, h1.1, h1.2, ?_⟩
      rcases h3 with h3 | ⟨h3, h4, h5⟩
      · exact Or.inl h3
      · have := hm (A (r s 4) i / 512).toNat (by omega)
        exact Or.inr ⟨h3, h4, by omega⟩
    | succ k ih =>
      intro n z2 A2 x hk ex o2 s0 s5 oA J2 hi2
      have q := sm n (by omega)
      have q1 := sm (n + 1) (by omega)
      have mn := hm n (by omega)
      have xn : x.toNat = n := by omega
      refine hPP z2 A2 x ⟨hs, by omega, by omega, fun c => by omega, fun _ => ⟨f1, by omega, fun A3 eA3 => ⟨b1, by omega, fun z3 ez3 => ⟨e1, by omega, ?_⟩⟩⟩⟩
      have m6 : A3 (r s 6) n = z2 s 5 := by
        have t := hz_s_same (A := A2) (r s 6) x (z2 s 5)
        rw [← eA3, xn] at t
        exact t
      have o6 : ∀ i : Nat, i ≠ n → A3 (r s 6) i = A2 (r s 6) i := fun i hi => by rw [eA3, hz_s_i (by omega)]
      have oB : ∀ a, a ≠ r s 6 → A3 a = A2 a := fun a ha => by rw [eA3, hz_s_a ha]
      have A32 : A3 (r s 2) = A (r s 2) := by rw [oB _ n26, oA _ n26 n27]
      have A34 : A3 (r s 4) = A (r s 4) := by rw [oB _ n46, oA _ n46 n47]
      have j3 : cJ L K r z2 A3 := by rw [eA3]; exact cJ_st J2 f1 dg6 ⟨fun _ => by omega, by omega, by omega, by omega⟩
      have zs5 : z3 s 5 = z2 s 5 + A (r s 2) n := by rw [ez3, cw_s_same, A32, xn]
      have cSn : cS (A (r s 2)) (n + 1) = cS (A (r s 2)) n + A (r s 2) n := rfl
      rw [A34, xn]
      have fin : ∀ v : Int, 0 ≤ v → v < z2 s 5 → cw_A L K 0 (r s 7) ∧ ((0 : Int) ≤ x ∧ x < (cw_n K (r s 7) : Int)) ∧ ∀ A_10 : Nat → Nat → Int, A_10 = hz_s A3 (r s 7) x v → ∀ x1_11 : Int, x1_11 = x + 1 → PP z3 A_10 x1_11 := by
        intro v v0 v1
        refine ⟨g1, by omega, fun A4 eA4 x' ex' => ?_⟩
        have m7 : A4 (r s 7) n = v := by
          have t := hz_s_same (A := A3) (r s 7) x v
          rw [← eA4, xn] at t
          exact t
        have o7 : ∀ i : Nat, i ≠ n → A4 (r s 7) i = A2 (r s 7) i := fun i hi => by rw [eA4, hz_s_i (by omega), oB _ (Ne.symm n67)]
        have o46 : A4 (r s 6) = A3 (r s 6) := by rw [eA4, hz_s_a n67]
        have j4 : cJ L K r z2 A4 := by rw [eA4]; exact cJ_st j3 g1 dg7 ⟨fun _ => by omega, by omega, by omega, by omega⟩
        refine ih (n + 1) z3 A4 x' (by omega) (by omega) (fun a ha => by rw [ez3, cw_s_a ha]; exact o2 a ha) (by rw [ez3, cw_s_k (by decide)]; exact s0) (by omega) (fun a h6 h7 => by rw [eA4, hz_s_a h7, oB a h6]; exact oA a h6 h7) (cJ_z j4 (fun b hb => by rw [ez3, cw_s_a (cw_O_ne hb hs (by decide))])) (fun i hi => ?_)
        rw [o46]
        by_cases ei : i = n
        · rw [ei, m6, m7]
          omega
        · have := hi2 i (by omega)
          rw [o6 i ei, o7 i ei]
          omega
      have dn := hd n (by omega)
      refine wq_c7_lineOf hs h7 (by omega) (fun d1 => fin 0 (by omega) (by omega)) (fun d0 => ?_)
      rcases dn with dn | ⟨dn, dl, dm⟩
      · omega
      · have h6 := hi2 (A (r s 4) n / 512).toNat (by omega)
        rw [o6 _ (by omega)]
        exact fin _ (by omega) (by omega)
  refine key (z s 0).toNat 0 z1 A 0 ?_ rfl (fun a ha => by rw [ez1, cw_s_a ha]) (by rw [ez1, cw_s_k (by decide)]) (by rw [ez1, cw_s_same]; rfl) (fun _ _ _ => rfl) (cJ_z hJ (fun b hb => by rw [ez1, cw_s_a (cw_O_ne hb hs (by decide))])) (fun i hi => by omega)
  omega
theorem wq_c5_findCommonNumber (X : cq_X L K r w ρ R) (J : cJ L K r z A) (hE : 0 ≤ E ∧ E ≤ 400) (hc : A (r (r R 3) 0) 1 = E) (he : ∀ j : Nat, (j : Int) < E → 0 ≤ A (r R 10) j) {Q : Int → (Nat → Nat → Int) → Prop} (hQ : ∀ (v : Int) (z' : Nat → Nat → Int), (v = 0 ∨ v = 1) → (∀ a, a ≠ r R 3 → z' a = z a) → (v = 1 → 0 ≤ z' (r R 3) 2 ∧ z' (r R 3) 2 < 1000000000) → Q v z') : wp_c5_findCommonNumber L K z r A R Q := by
  obtain ⟨c1, c2, c3, c4⟩ := cq_wc X
  have x4 := X.2.2.2.1
  have k10 := X.2.2.2.2.2.2.1
  have hc' : A (r (r R 3) 0) (1 : Int).toNat = E := hc
  refine ⟨X.1, x4, fun z1 e1 => ?_⟩
  intro PP hPP
  have key : ∀ (k j : Nat) (z2 : Nat → Nat → Int) (x : Int), j + (k : Int) = E → x = (j : Int) → (∀ a, a ≠ r R 3 → z2 a = z a) → (0 ≤ z2 (r R 3) 2 ∧ z2 (r R 3) 2 < 1000000000) → PP z2 x := by
    intro k
    induction k with
    | zero =>
      intro j z2 x hk ex o2 b2
      exact hPP z2 x ⟨X.1, x4, c1, by omega, by omega, by omega, fun _ => hQ 1 z2 (Or.inr rfl) o2 (fun _ => b2), fun q => by omega⟩
    | succ k ih =>
      intro j z2 x hk ex o2 b2
      have xn : x.toNat = j := by omega
      have hb := he j (by omega)
      have rb := (J.2 _).2.1 k10.1 j
      rw [← xn] at hb rb
      have l10 := k10.2.1
      refine hPP z2 x ⟨X.1, x4, c1, by omega, by omega, by omega, fun q => by omega, fun _ => ⟨k10.1, by omega, rb, fun lt => ⟨by omega, ?_⟩, fun _ => hQ 0 z2 (Or.inl rfl) o2 (fun q => by omega)⟩⟩
      have b3 : z2 (r R 3) 2 * A (r R 10) x.toNat ≤ 1000000000 * 1000000000 := Int.mul_le_mul (by omega) (by omega) hb (by omega)
      refine wq_c11_lcm (M := 1000000000000000000) ⟨b2.1, by omega⟩ ⟨hb, by omega⟩ (by omega) (by decide) (fun v v0 v1 z3 e3 => ?_)
      have f3 : z3 (r R 3) 2 = v := by rw [e3, cw_s_same]
      have o3 : ∀ a, a ≠ r R 3 → z3 a = z a := fun a ha => by rw [e3, cw_s_a ha]; exact o2 a ha
      exact ⟨by omega, fun lt2 x' ex' => ih (j + 1) z3 x' (by omega) (by omega) o3 (by omega), fun _ => hQ 0 z3 (Or.inl rfl) o3 (fun q => by omega)⟩
  have f1 : z1 (r R 3) 2 = 1 := by rw [e1, cw_s_same]
  exact key E.toNat 0 z1 0 (by omega) rfl (fun a ha => by rw [e1, cw_s_a ha]) (by omega)
theorem wq_c5_fillWeights (X : cq_X L K r w ρ R) (J : cJ L K r z A) (hE : 0 ≤ E ∧ E ≤ 400) (hc : A (r (r R 3) 0) 1 = E) (he : cq_e K r z A R (fun _ _ => False) E) (h0 : cq_0 K r A R) (F0 : cs_F L K r z A (cw_g K (r (r R 3) 1) 0)) (F1 : cs_F L K r z A (cw_g K (r (r R 3) 1) 1)) (hcm : 0 ≤ z (r R 3) 2 ∧ z (r R 3) 2 < 1000000000) {Q : Int → (Nat → Nat → Int) → Prop} (hQ : ∀ (v : Int) (A' : Nat → Nat → Int), (v = 0 ∨ v = 1) → cJ L K r z A' → (∀ a, (∀ i, i < 20 → a ≠ cw_g K (r (r R 3) 3) i) → A' a = A a) → (v = 1 → cg_W K r A' (r R 3) ≤ 400000000000) → Q v A') : wp_c5_fillWeights L K z r A R Q := by
  obtain ⟨c1, c2, c3, c4⟩ := cq_wc X
  obtain ⟨x1, x2, x3, x4, g4, ⟨k9, l9, w9, v9⟩, ⟨k10, l10, w10, v10⟩, ⟨k11, l11, w11, v11⟩, ⟨k12, l12, w12, v12⟩, x10, x11, x12⟩ := id X
  have o := cq_o3 X
  have g7 := (x11 _ x4).2.1
  have g10 := (x11 _ x4).2.2
  have hc' : A (r (r R 3) 0) (1 : Int).toNat = E := hc
  have nR : ∀ k, (k = 9 ∨ k = 10 ∨ k = 11 ∨ k = 12) → ∀ i, i < 20 → r R k ≠ cw_g K (r (r R 3) 3) i := fun k hk i hi => cg_ne (cq_wr X hk).1 (cq_ww X hi).2.2.1 (fun e => o.1 _ _ x1 e.1)
  have nC : ∀ i, i < 20 → r (r R 3) 0 ≠ cw_g K (r (r R 3) 3) i := fun i hi => cg_ne c3 (cq_ww X hi).2.2.1 (fun e => o.1 _ _ x4 e.1)
  have nS : ∀ t k, t < 2 → (k = 1 ∨ k = 2 ∨ k = 3 ∨ k = 4 ∨ k = 6 ∨ k = 7) → ∀ i, i < 20 → r (cw_g K (r (r R 3) 1) t) k ≠ cw_g K (r (r R 3) 3) i := fun t k ht hk i hi => Ne.symm ((cq_apart X ht hk).2.1 i hi)
  have W0 : cg_W K r A (r R 3) = 0 := by
    have e : cg_W K r A (r R 3) = cS (fun _ => cS (fun _ => 0) 20) 20 := cS_congr (fun i hi => cS_congr (fun j hj => by
      show ((A (cw_g K (r (r R 3) 3) i) j).natAbs : Int) = 0
      rw [h0 i j hi hj]
      rfl))
    rw [e]
    decide
  intro PP hPP
  have key : ∀ (k j : Nat) (A1 : Nat → Nat → Int) (x : Int), j + (k : Int) = E → x = (j : Int) → cJ L K r z A1 → (∀ a, (∀ i, i < 20 → a ≠ cw_g K (r (r R 3) 3) i) → A1 a = A a) → cg_W K r A1 (r R 3) ≤ (j : Int) * 1000000000 → PP A1 x := by
    intro k
    induction k with
    | zero =>
      intro j A1 x hk ex J1 fr hW
      have hc1 : A1 (r (r R 3) 0) (1 : Int).toNat = E := by rw [fr _ nC]; exact hc'
      exact hPP A1 x ⟨x1, x4, c1, by omega, by omega, by omega, fun _ => hQ 1 A1 (Or.inr rfl) J1 fr (fun _ => by omega), fun q => by omega⟩
    | succ k ih =>
      intro j A1 x hk ex J1 fr hW
      have xn : x.toNat = j := by omega
      have hc1 : A1 (r (r R 3) 0) (1 : Int).toNat = E := by rw [fr _ nC]; exact hc'
      obtain ⟨⟨e1, e2⟩, e3, e4⟩ := he j (by omega)
      have q10 : A1 (r R 10) x.toNat = A (r R 10) j := by rw [fr _ (nR 10 (by omega)), xn]
      have q9 : A1 (r R 9) x.toNat = A (r R 9) j := by rw [fr _ (nR 9 (by omega)), xn]
      have q11 : A1 (r R 11) x.toNat = A (r R 11) j := by rw [fr _ (nR 11 (by omega)), xn]
      have q12 : A1 (r R 12) x.toNat = A (r R 12) j := by rw [fr _ (nR 12 (by omega)), xn]
      have rb := (J.2 _).2.1 k10 j
      have FF : ∀ t, t < 2 → cs_F L K r z A (cw_g K (r (r R 3) 1) t) → cs_F L K r z A1 (cw_g K (r (r R 3) 1) t) := by
        intro t ht F
        unfold cs_F at F ⊢
        rw [fr _ (nS t 2 ht (by omega)), fr _ (nS t 4 ht (by omega)), fr _ (nS t 6 ht (by omega)), fr _ (nS t 7 ht (by omega))]
        exact F
      have dd : ∀ t, t < 2 → ∀ d, cq_d r z A (cw_g K (r (r R 3) 1) t) (fun _ => False) d → cq_d r z A1 (cw_g K (r (r R 3) 1) t) (fun _ => False) d := by
        intro t ht d hd
        unfold cq_d at hd ⊢
        rw [fr _ (nS t 2 ht (by omega))]
        exact hd
      refine hPP A1 x ⟨x1, x4, c1, by omega, by omega, by omega, fun q => by omega, fun _ => ⟨k10, by omega, ?_⟩⟩
      rw [q10, q9, q11, q12]
      refine wq_c11_quotient (by omega) ⟨e1, by omega⟩ (fun u u1 _ u3 u4 => ⟨k9, by omega, fun x2 ex2 => ?_⟩)
      have u1 := u1 hcm.1
      have ub : A (r R 10) j * u ≤ 1000000000 := by
        by_cases hb : A (r R 10) j = 0
        · rw [hb, Int.zero_mul]
          decide
        · rw [u3 (by omega), Int.tdiv_eq_ediv_of_nonneg hcm.1]
          have t1 := Int.mul_ediv_add_emod (z (r R 3) 2) (A (r R 10) j)
          have t2 := Int.emod_nonneg (z (r R 3) 2) hb
          omega
      have p1 : (x2.natAbs : Int) = u * ((A (r R 9) j).natAbs : Int) := by rw [ex2, Int.natAbs_mul, Int.natCast_mul, show (u.natAbs : Int) = u by omega]
      have p2 : u * ((A (r R 9) j).natAbs : Int) ≤ u * (9999 * A (r R 10) j) := Int.mul_le_mul_of_nonneg_left e2 u1.1
      have p3 : u * (9999 * A (r R 10) j) = 9999 * (A (r R 10) j * u) := by grind
      have p4 : (x2.natAbs : Int) ≤ 9999000000000 := by
        rw [p1]
        rw [p3] at p2
        omega
      refine ⟨by omega, by omega, fun x9 ex9 => ⟨by omega, fun lt => ⟨g7.1, by have := g7.2.1; omega, k11, by omega, (cq_side X (t := 0) (by omega)).1, ?_⟩, fun _ => hQ 0 A1 (Or.inl rfl) J1 fr (fun q => by omega)⟩⟩
      refine wq_c7_lineOfF x12 (FF 0 (by omega) F0) (dd 0 (by omega) _ e3) (fun la la0 la1 => ⟨by have := g7.2.1; omega, k12, by omega, (cq_side X (t := 1) (by omega)).1, ?_⟩)
      refine wq_c7_lineOfF x12 (FF 1 (by omega) F1) (dd 1 (by omega) _ e4) (fun lb lb0 lb1 => ?_)
      obtain ⟨y1, y2, y3, y4⟩ := cq_ww X (i := la.toNat) (by omega)
      refine ⟨g10.1, by have := g10.2.1; omega, y1, by omega, by omega, fun A2 eA2 x' ex' => ?_⟩
      have cell := cg_W_le (K := K) (r := r) (A := A1) (g := r R 3) (i := la.toNat) (j := lb.toNat) (by omega) (by omega)
      have J2 : cJ L K r z A2 := by
        rw [eA2]
        exact cJ_st J1 y1 (fun b hb => cg_ne (x10 b hb) y3 (fun e => o.1 _ _ hb e.1)) ⟨by omega, fun _ => by omega, by omega, by omega⟩
      refine ih (j + 1) A2 x' (by omega) (by omega) J2 (fun a ha => by rw [eA2, hz_s_a (ha _ (by omega))]; exact fr a ha) ?_
      have up : cg_W K r A2 (r R 3) ≤ cg_W K r A1 (r R 3) + (x2.natAbs : Int) := by
        refine cS_upd (i := la.toNat) (by omega) (fun k hk hne => cS_congr (fun j hj => ?_)) (cS_upd (i := lb.toNat) (by omega) (fun k hk hne => ?_) ?_)
        · show ((A2 (cw_g K (r (r R 3) 3) k) j).natAbs : Int) = ((A1 (cw_g K (r (r R 3) 3) k) j).natAbs : Int)
          rw [eA2, hz_s_a (cg_ne (cq_ww X hk).2.2.1 y3 (fun e => hne e.2))]
        · show ((A2 (cw_g K (r (r R 3) 3) la.toNat) k).natAbs : Int) = ((A1 (cw_g K (r (r R 3) 3) la.toNat) k).natAbs : Int)
          rw [eA2, hz_s_i hne]
        · show ((A2 (cw_g K (r (r R 3) 3) la.toNat) lb.toNat).natAbs : Int) ≤ ((A1 (cw_g K (r (r R 3) 3) la.toNat) lb.toNat).natAbs : Int) + (x2.natAbs : Int)
          rw [eA2, hz_s_same]
          omega
      omega
  exact key E.toNat 0 A 0 (by omega) rfl J (fun _ _ => rfl) (by rw [W0]; decide)
end CJ
