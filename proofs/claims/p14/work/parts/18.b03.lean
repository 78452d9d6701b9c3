-- 18.b32
/-- what the objects of a HiddenMoves are, which never changes but for the two games -/
noncomputable def ci_S1 (L : List Nat) (K : Nat → cw_K) (r : Nat → Nat → Nat) (w : Nat → Nat × Nat) (ρ : Nat → Nat) : Prop := (∀ a, cw_O L K 0 a → w (r a 0) = (a, 0)) ∧ cg_1 L K r w ρ ∧ cg_2 L K r w ρ ∧ cg_3 L K r w ρ ∧ cg_4 L K r w ρ ∧ cg_6 L K r w ρ ∧ cg_7 L K r w ρ ∧ cg_8 L K r w ρ ∧ cg_9 L K r w ρ
/-- a row of objects, each a region of its own -/
noncomputable def ci_R (L : List Nat) (K : Nat → cw_K) (ρ : Nat → Nat) (t ci n x q : Nat) : Prop := cw_G L K t x ∧ cw_n K x = n ∧ ∀ i, i < n → cw_O L K ci (cw_g K x i) ∧ ρ (cw_g K x i) = q + i
noncomputable def ci_S2 (L : List Nat) (K : Nat → cw_K) (r : Nat → Nat → Nat) (w : Nat → Nat × Nat) (ρ : Nat → Nat) (h : Nat) : Prop :=
  (cw_O L K 11 h ∧ ρ h = 0) ∧ (cw_O L K 5 (r h 0) ∧ ρ (r h 0) = 1) ∧ (cw_O L K 10 (r (r h 0) 2) ∧ ρ (r (r h 0) 2) = 1 ∧ ρ (r (r (r h 0) 2) 0) = 1) ∧ cg_A L K r w ρ 2 642 h 1 ∧ (cw_O L K 8 (r h 3) ∧ ρ (r h 3) = 2) ∧ ci_R L K ρ 9 9 2 (r h 4) 3 ∧ ci_R L K ρ 8 3 2 (r h 5) 5 ∧ ci_R L K ρ 8 3 2 (r h 6) 7 ∧ ci_R L K ρ 6 6 2 (r h 7) 9 ∧ (cw_O L K 6 (r h 8) ∧ ρ (r h 8) = 11) ∧ ci_R L K ρ 5 4 4 (r h 9) 12 ∧ (cw_O L K 4 (r h 10) ∧ ρ (r h 10) = 16) ∧ cg_B L K r w ρ 32 h 11 ∧ cg_B L K r w ρ 32 h 12 ∧ (cw_O L K 2 (r h 13) ∧ 17 ≤ ρ (r h 13)) ∧ (cw_O L K 2 (r (r h 0) 3) ∧ 17 ≤ ρ (r (r h 0) 3) ∧ ρ (r (r h 0) 3) ≠ ρ (r h 13))
/-- what holds of it between two calls -/
noncomputable def ci_I (L : List Nat) (K : Nat → cw_K) (r : Nat → Nat → Nat) (w : Nat → Nat × Nat) (ρ : Nat → Nat) (z A : Nat → Nat → Int) (h : Nat) : Prop :=
  ci_S1 L K r w ρ ∧ ci_S2 L K r w ρ h ∧ cJ L K r z A ∧ cl_T L K r z A (r (r h 0) 2) ∧ (z h 14 = 0 ∨ z h 14 = 1) ∧ (z h 14 = 1 → cg_F L K r z A (r h 13)) ∧ (∀ i, i < 2 → cy_W L K r A (cw_g K (r h 4) i)) ∧ (∀ i, i < 2 → cm_T K r z (cw_g K (r h 5) i)) ∧ (∀ i, i < 2 → cm_M K r z A (r (cw_g K (r h 6) i) 0) cz_M) ∧ (∀ i, i < 4 → (z (cw_g K (r h 9) i) 2 = 0 ∨ z (cw_g K (r h 9) i) 2 = 1) ∧ (z (cw_g K (r h 9) i) 2 = 1 → z h 14 = 1)) ∧ (0 ≤ z h 2 ∧ z h 2 ≤ 642) ∧ hz_rI (z h 15)
section CI
variable {L : List Nat} {K : Nat → cw_K} {r : Nat → Nat → Nat} {z A : Nat → Nat → Int} {w : Nat → Nat × Nat} {ρ : Nat → Nat} {S : Nat → Prop} {h : Nat}
theorem ci_keep {z' A' : Nat → Nat → Int} (I : ci_I L K r w ρ z A h) (hF : cF ρ S z A z' A') (hJ : cJ L K r z' A') (pg : ¬ S (ρ (r h 13))) (p0 : S 0 → z' h 14 = z h 14 ∧ (0 ≤ z' h 2 ∧ z' h 2 ≤ 642) ∧ hz_rI (z' h 15)) (p1 : S 1 → cl_T L K r z' A' (r (r h 0) 2)) (pw : ∀ i, i < 2 → S (3 + i) → cy_W L K r A' (cw_g K (r h 4) i)) (pt : ∀ i, i < 2 → S (5 + i) → cm_T K r z' (cw_g K (r h 5) i)) (pf : ∀ i, i < 2 → S (7 + i) → cm_M K r z' A' (r (cw_g K (r h 6) i) 0) cz_M) (pr : ∀ i, i < 4 → S (12 + i) → (z' (cw_g K (r h 9) i) 2 = 0 ∨ z' (cw_g K (r h 9) i) 2 = 1) ∧ (z' (cw_g K (r h 9) i) 2 = 1 → z h 14 = 1)) : ci_I L K r w ρ z' A' h := by
  obtain ⟨S1, S2, J, T, g1, g2, W, Tt, M, R, q2, q15⟩ := I
  obtain ⟨hdg, h1, h2, h3, h4, h6, h7, h8, h9⟩ := S1
  obtain ⟨⟨a1, a2⟩, ⟨b1, b2⟩, ⟨c1, c2, c3⟩, d, e, f, g, i, j, k, l, m, n, o, p, q⟩ := id S2
  have e14 : z' h 14 = z h 14 := by
    by_cases s : S 0
    · exact (p0 s).1
    · rw [(hF h (by rw [a2]; exact s)).1]
  refine ⟨⟨hdg, h1, h2, h3, h4, h6, h7, h8, h9⟩, S2, hJ, ?_, by rw [e14]; exact g1, fun x => cg_F_keep h2 h7 (g2 (by rw [← e14]; exact x)) hF pg, fun t ht => ?_, fun t ht => ?_, fun t ht => ?_, fun t ht => ?_, ?_, ?_⟩
  · by_cases s : S 1
    · exact p1 s
    · unfold cl_T at T ⊢
      rw [(hF (r (r h 0) 2) (by rw [c2]; exact s)).1, (hF (r (r (r h 0) 2) 0) (by rw [c3]; exact s)).2]
      exact T
  · by_cases s : S (3 + t)
    · exact pw t ht s
    · exact cy_W_keep h9 (W t ht) hF (by rw [(f.2.2 t ht).2]; exact s)
  · by_cases s : S (5 + t)
    · exact pt t ht s
    · intro x hx
      have hm := (g.2.2 t ht)
      obtain ⟨⟨y1, y2, y3, y4⟩, -⟩ := h3 _ hm.1
      rw [(hF _ (by rw [(y4 x hx).2.2.2, hm.2]; exact s)).1]
      exact Tt t ht x hx
  · by_cases s : S (7 + t)
    · exact pf t ht s
    · intro x hx
      have hm := (i.2.2 t ht)
      obtain ⟨⟨y1, y2, y3, y4⟩, -⟩ := h3 _ hm.1
      rw [(cF_big h1 hF (y4 x hx).1 (by rw [(y4 x hx).2.2.2, hm.2]; exact s)).1]
      exact M t ht x hx
  · rw [e14]
    by_cases s : S (12 + t)
    · exact pr t ht s
    · rw [(hF _ (by rw [(l.2.2 t ht).2]; exact s)).1]
      exact R t ht
  · by_cases s : S 0
    · exact (p0 s).2.1
    · rw [(hF h (by rw [a2]; exact s)).1]; exact q2
  · by_cases s : S 0
    · exact (p0 s).2.2
    · rw [(hF h (by rw [a2]; exact s)).1]; exact q15
theorem wq_c11_isPlayer {p : Int} (hp : hz_rI p) {Q : Int → Prop} (h1 : (p = 1 ∨ p = 2) → Q 1) (h0 : ¬ (p = 1 ∨ p = 2) → Q 0) : wp_c11_isPlayer L K z r A p Q := by
  refine ⟨hp, fun c => ⟨by omega, h1 (Or.inl c)⟩, fun c => ⟨hp, fun c2 => ⟨by omega, h0 (by omega)⟩, fun c2 => ⟨by omega, h1 (Or.inr c2)⟩⟩⟩
theorem wq_c11_isPlaying {p : Int} (I : ci_I L K r w ρ z A h) (hp : hz_rI p) {Q : Int → Prop} (h1 : (p = 1 ∨ p = 2) → z h 14 = 1 → Q 1) (h0 : Q 0) : wp_c11_isPlaying L K z r A h p Q := by
  have g1 := I.2.2.2.2.1
  refine ⟨I.2.1.1.1, by omega, fun _ => ⟨by omega, h0⟩, fun c => wq_c11_isPlayer hp (fun hp1 => ⟨by decide, fun c9 => absurd c9 (by decide), fun _ => ⟨by omega, h1 hp1 (by omega)⟩⟩) (fun _ => ⟨by decide, fun _ => ⟨by omega, h0⟩, fun c9 => absurd rfl c9⟩)⟩
/-- a side of the game that is played -/
theorem ci_side (I : ci_I L K r w ρ z A h) {p : Int} (hp : p = 1 ∨ p = 2) (hg : z h 14 = 1) : cw_G L K 7 (r (r h 13) 1) ∧ cw_n K (r (r h 13) 1) = 2 ∧ cs_F L K r z A (cw_g K (r (r h 13) 1) (p - 1).toNat) := by
  have hF := I.2.2.2.2.2.1 hg
  obtain ⟨-, ⟨s1, s2, s3⟩, -⟩ := I.1.2.2.1 _ hF.1
  exact ⟨s1, s2, cg_F_side (q := p - 1) hF (by omega)⟩
theorem wq_c11_sideOf (I : ci_I L K r w ρ z A h) {p : Int} (hp : p = 1 ∨ p = 2) (hg : z h 14 = 1) {Q : Nat → Prop} (hQ : cs_F L K r z A (cw_g K (r (r h 13) 1) (p - 1).toNat) → Q (cw_g K (r (r h 13) 1) (p - 1).toNat)) : wp_c11_sideOf L K z r A h p Q := by
  obtain ⟨s1, s2, s3⟩ := ci_side I hp hg
  exact ⟨I.2.1.1.1, (I.2.2.2.2.2.1 hg).1, s1, by omega, hQ s3⟩
theorem wq_c7_hasSet {s : Nat} {i : Int} (hs : cw_O L K 7 s) (hz : 0 ≤ z s 0 ∧ z s 0 ≤ 10) (hi : hz_rI i) {Q : Int → Prop} (h1 : (0 ≤ i ∧ i < z s 0) → Q 1) (h0 : Q 0) : wp_c7_hasSet L K z r A s i Q := by
  refine ⟨hi, fun _ => ⟨by omega, h0⟩, fun c => ⟨hs, hi, by omega, fun _ => ⟨by omega, h0⟩, fun c2 => ⟨by omega, h1 (by omega)⟩⟩⟩
/-- calls that only look -/
theorem wq_c11_place (I : ci_I L K r w ρ z A h) {Q : Int → Prop} (hQ : ∀ x, Q x) : wp_c11_place L K z r A h Q := ⟨I.2.1.1.1, hQ _⟩
theorem wq_c11_count {y : Int} (I : ci_I L K r w ρ z A h) (hy : hz_rI y) {Q : Int → Prop} (hQ : ∀ x, Q x) : wp_c11_count L K z r A h y Q := by
  have g1 := I.2.2.2.2.1
  refine ⟨I.2.1.1.1, by omega, fun _ => hQ _, fun c => ⟨hy, fun _ => hQ _, fun c1 => ⟨hy, fun _ => hQ _, fun c2 => ?_⟩⟩⟩
  have hF := I.2.2.2.2.2.1 (by omega)
  obtain ⟨⟨a1, a2, -, -⟩, -, -⟩ := I.1.2.2.1 _ hF.1
  exact ⟨hF.1, a1, by omega, hQ _⟩
theorem wq_c11_sets {y : Int} (I : ci_I L K r w ρ z A h) (hy : hz_rI y) {Q : Int → Prop} (hQ : ∀ x, Q x) : wp_c11_sets L K z r A h y Q := by
  refine ⟨I.2.1.1.1, wq_c11_isPlaying I hy (fun hp hg => ⟨by decide, fun c => absurd c (by decide), fun _ => wq_c11_sideOf I hp hg (fun hs => ⟨hs.1, hQ _⟩)⟩) ⟨by decide, fun _ => hQ _, fun c => absurd rfl c⟩⟩
theorem wq_c11_set {p i y : Int} (I : ci_I L K r w ρ z A h) (hp : hz_rI p) (hi : hz_rI i) (hy : hz_rI y) {Q : Int → Prop} (hQ : ∀ x, Q x) : wp_c11_set L K z r A h p i y Q := by
  have no : wp_c11_set_20 L K z r A Q := hQ _
  refine ⟨I.2.1.1.1, wq_c11_isPlaying I hp (fun hp1 hg => ⟨by decide, fun _ => no, fun _ => wq_c11_sideOf I hp1 hg (fun hs => ⟨hs.1, wq_c7_hasSet hs.1 hs.2.1 hi (fun hi2 => ⟨by decide, fun _ => wq_c11_sideOf I hp1 hg (fun _ => ?_), fun _ => no⟩) ⟨by decide, fun c => absurd rfl c, fun _ => no⟩⟩)⟩) ⟨by decide, fun _ => no, fun c => absurd rfl c⟩⟩
  obtain ⟨⟨a1, a2, -, -⟩, ⟨b1, b2, -, -⟩, ⟨c1, c2, -, -⟩, -, -, -⟩ := I.1.2.2.2.2.2.2.1 _ hs.1
  have f2 := hs.2.1
  exact ⟨hy, fun _ => ⟨hs.1, b1, by omega, hQ _⟩, fun _ => ⟨fun _ => ⟨hs.1, a1, by omega, hQ _⟩, fun _ => ⟨fun _ => ⟨hs.1, c1, by omega, hQ _⟩, fun _ => hQ _⟩⟩⟩
theorem wq_c7_countPlans {s : Nat} (hs : cw_O L K 7 s) (h7 : cg_7 L K r w ρ) (hz : 0 ≤ z s 0 ∧ z s 0 ≤ 10) {Q : Int → Prop} (hQ : ∀ x : Int, hz_rI x → Q x) : wp_c7_countPlans L K z r A s Q := by
  obtain ⟨-, ⟨b1, b2, -, -⟩, -, -, -, -⟩ := h7 s hs
  intro PP hPP
  have key : ∀ (k n : Nat) (v x : Int), n + (k : Int) = z s 0 → x = (n : Int) → hz_rI v → PP v x := by
    intro k
    induction k with
    | zero => intro n v x hk ex hv; exact hPP v x ⟨hs, by omega, by omega, fun _ => hQ v hv, fun c => by omega⟩
    | succ k ih => intro n v x hk ex hv; exact hPP v x ⟨hs, by omega, by omega, fun c => by omega, fun _ => ⟨b1, by omega, fun v1 hv1 _ x1 e1 => ih (n + 1) v1 x1 (by omega) (by omega) hv1⟩⟩
  exact key (z s 0).toNat 0 1 0 (by omega) rfl (by decide)
theorem wq_c11_plans {y : Int} (I : ci_I L K r w ρ z A h) (hy : hz_rI y) {Q : Int → Prop} (hQ : ∀ x, Q x) : wp_c11_plans L K z r A h y Q := by
  refine ⟨I.2.1.1.1, wq_c11_isPlaying I hy (fun hp hg => ⟨by decide, fun c => absurd c (by decide), fun _ => wq_c11_sideOf I hp hg (fun hs => ⟨hs.1, wq_c7_countPlans hs.1 I.1.2.2.2.2.2.2.1 hs.2.1 (fun x _ => hQ x)⟩)⟩) ⟨by decide, fun _ => hQ _, fun c => absurd rfl c⟩⟩
theorem wq_c11_isGood {p : Int} (I : ci_I L K r w ρ z A h) (hp : p = 0 ∨ p = 1) (hg : z h 14 = 1) {Q : Int → Prop} (hQ : ∀ x : Int, (x = 0 ∨ x = 1) → Q x) : wp_c11_isGood L K z r A h p Q := by
  obtain ⟨s1, s2, s3⟩ := ci_side (p := p + 1) I (by omega) hg
  rw [show p + 1 - 1 = p by omega] at s3
  obtain ⟨-, -, -, -, -, ⟨f1, f2, f3⟩, -⟩ := I.2.1
  have W := I.2.2.2.2.2.2.1 p.toNat (by omega)
  exact ⟨I.2.1.1.1, f1, by omega, (I.2.2.2.2.2.1 hg).1, s1, by omega, (f3 _ (by omega)).1, wq_c9_isGood I.1.2.2.2.2.2.2.1 I.1.2.2.2.2.2.2.2.2 s3 W (fun x hx => ⟨hx, hQ x hx⟩)⟩
theorem wq_c11_good {y : Int} (I : ci_I L K r w ρ z A h) (hy : hz_rI y) {Q : Int → Prop} (hQ : ∀ x, Q x) : wp_c11_good L K z r A h y Q := by
  refine ⟨I.2.1.1.1, wq_c11_isPlaying I hy (fun hp hg => ⟨by decide, fun _ => wq_c11_isGood I (by omega) hg (fun x hx => ⟨by omega, fun _ => hQ _, fun _ => hQ _⟩), fun c => absurd c (by decide)⟩) ⟨by decide, fun c => absurd rfl c, fun _ => hQ _⟩⟩
theorem wq_c11_isKnown {y : Int} (I : ci_I L K r w ρ z A h) (hy : hz_rI y) {Q : Int → Prop} (h1 : (0 ≤ y ∧ y < 4) → z h 14 = 1 → Q 1) (h0 : Q 0) : wp_c11_isKnown L K z r A h y Q := by
  obtain ⟨-, -, -, -, -, -, -, -, -, -, ⟨l1, l2, l3⟩, -⟩ := I.2.1
  refine ⟨hy, fun _ => ⟨by omega, h0⟩, fun c => ⟨hy, fun _ => ⟨by omega, h0⟩, fun c2 => ?_⟩⟩
  have R := I.2.2.2.2.2.2.2.2.2.1 y.toNat (by omega)
  exact ⟨I.2.1.1.1, l1, by omega, (l3 _ (by omega)).1, by omega, fun _ => ⟨by omega, h0⟩, fun c3 => ⟨by omega, h1 (by omega) (R.2 (by omega))⟩⟩
theorem wq_c11_character {y : Int} (I : ci_I L K r w ρ z A h) (hy : hz_rI y) {Q : Int → Prop} (hQ : ∀ x, Q x) : wp_c11_character L K z r A h y Q := by
  have q2 := I.2.2.2.2.2.2.2.2.2.2.1
  obtain ⟨-, -, -, ⟨d1, d2, d3, d4⟩, -⟩ := I.2.1
  refine ⟨hy, fun _ => hQ _, fun c => ⟨I.2.1.1.1, hy, by omega, fun _ => hQ _, fun c2 => ⟨d1, by omega, hQ _⟩⟩⟩
end CI

-- 18.b33
section CI
variable {L : List Nat} {K : Nat → cw_K} {r : Nat → Nat → Nat} {z A : Nat → Nat → Int} {w : Nat → Nat × Nat} {ρ : Nat → Nat} {S : Nat → Prop} {h : Nat}
theorem ci_g (I : ci_I L K r w ρ z A h) : cw_O L K 2 (r h 13) ∧ 17 ≤ ρ (r h 13) := I.2.1.2.2.2.2.2.2.2.2.2.2.2.2.2.2.1
theorem cz_M_work : 100000000000000000 * cz_M < 4294967296 ^ 32 := by
  unfold cz_M
  decide +kernel
theorem cz_M_mix : 10 * cz_M < 4294967296 ^ 32 := by
  unfold cz_M
  decide +kernel
end CI
