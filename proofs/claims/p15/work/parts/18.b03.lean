-- 18.b32
/-- what the objects of a HiddenMoves are, which never changes but for the two games -/
noncomputable def ci_S1 (L : List Nat) (K : Nat → cw_K) (r : Nat → Nat → Nat) (w : Nat → Nat × Nat) (ρ : Nat → Nat) : Prop := (∀ a, cw_O L K 0 a → w (r a 0) = (a, 0)) ∧ cg_1 L K r w ρ ∧ cg_2 L K r w ρ ∧ cg_3 L K r w ρ ∧ cg_4 L K r w ρ ∧ cg_6 L K r w ρ ∧ cg_7 L K r w ρ ∧ cg_8 L K r w ρ ∧ cg_9 L K r w ρ
/-- a row of objects, each a region of its own -/
noncomputable def ci_R (L : List Nat) (K : Nat → cw_K) (ρ : Nat → Nat) (t ci n x q : Nat) : Prop := cw_G L K t x ∧ cw_n K x = n ∧ ∀ i, i < n → cw_O L K ci (cw_g K x i) ∧ ρ (cw_g K x i) = q + i
noncomputable def ci_S2 (L : List Nat) (K : Nat → cw_K) (r : Nat → Nat → Nat) (w : Nat → Nat × Nat) (ρ : Nat → Nat) (h : Nat) : Prop :=
  (cw_O L K 11 h ∧ ρ h = 0) ∧ (cw_O L K 5 (r h 0) ∧ ρ (r h 0) = 1) ∧ (cw_O L K 10 (r (r h 0) 2) ∧ ρ (r (r h 0) 2) = 1 ∧ ρ (r (r (r h 0) 2) 0) = 1) ∧ cg_A L K r w ρ 2 642 h 1 ∧ (cw_O L K 8 (r h 3) ∧ ρ (r h 3) = 2) ∧ ci_R L K ρ 9 9 2 (r h 4) 3 ∧ ci_R L K ρ 8 3 2 (r h 5) 5 ∧ ci_R L K ρ 8 3 2 (r h 6) 7 ∧ ci_R L K ρ 6 6 2 (r h 7) 9 ∧ (cw_O L K 6 (r h 8) ∧ ρ (r h 8) = 11) ∧ ci_R L K ρ 5 4 4 (r h 9) 12 ∧ (cw_O L K 4 (r h 10) ∧ ρ (r h 10) = 16) ∧ cg_B L K r w ρ 32 h 11 ∧ cg_B L K r w ρ 32 h 12 ∧ (cw_O L K 2 (r h 13) ∧ 17 ≤ ρ (r h 13)) ∧ (cw_O L K 2 (r (r h 0) 3) ∧ 17 ≤ ρ (r (r h 0) 3) ∧ ρ (r (r h 0) 3) ≠ ρ (r h 13))
/-- what holds of it between two calls -/
noncomputable def ci_I (L : List Nat) (K : Nat → cw_K) (r : Nat → Nat → Nat) (w : Nat → Nat × Nat) (ρ : Nat → Nat) (z A : Nat → Nat → Int) (h : Nat) : Prop :=
  ci_S1 L K r w ρ ∧ ci_S2 L K r w ρ h ∧ cJ L K r z A ∧ cl_T L K r z A (r (r h 0) 2) ∧ (z h 14 = 0 ∨ z h 14 = 1) ∧ (z h 14 = 1 → cg_F L K r z A (r h 13)) ∧ (∀ i, i < 2 → cy_W L K r A (cw_g K (r h 4) i)) ∧ (∀ i, i < 2 → cm_T K r z (cw_g K (r h 5) i)) ∧ (∀ i, i < 2 → cm_M K r z A (r (cw_g K (r h 6) i) 0) cz_M) ∧ (∀ i, i < 4 → (z (cw_g K (r h 9) i) 2 = 0 ∨ z (cw_g K (r h 9) i) 2 = 1) ∧ (z (cw_g K (r h 9) i) 2 = 1 → z h 14 = 1)) ∧ (0 ≤ z h 2 ∧ z h 2 ≤ 642) ∧ hz_rI (z h 15)
section CI
variable {L : List Nat} {K : Nat → cw_K} {r : Nat → Nat → Nat} {z A : Nat → Nat → Int} {w : Nat → Nat × Nat} {ρ : Nat → Nat} {S : Nat → Prop} {h : Nat}
theorem ci_keep {z' A' : Nat → Nat → Int} (I : ci_I L K r w ρ z A h) (hF : cF ρ S z A z' A') (hJ : cJ L K r z' A') (pg : ¬ S (ρ (r h 13))) (p0 : S 0 → z' h 14 = z h 14 ∧ (0 ≤ z' h 2 ∧ z' h 2 ≤ 642) ∧ hz_rI (z' h 15)) (p1 : S 1 → cl_T L K r z' A' (r (r h 0) 2)) (pw : ∀ i, i < 2 → S (3 + i) → cy_W L K r A' (cw_g K (r h 4) i)) (pt : ∀ i, i < 2 → S (5 + i) → cm_T K r z' (cw_g K (r h 5) i)) (pf : ∀ i, i < 2 → S (7 + i) → cm_M K r z' A' (r (cw_g K (r h 6) i) 0) cz_M) (pr : ∀ i, i < 4 → S (12 + i) → (z' (cw_g K (r h 9) i) 2 = 0 ∨ z' (cw_g K (r h 9) i) 2 = 1) ∧ (z' (cw_g K (r h 9) i) 2 = 1 → z h 14 = 1)) : ci_I L K r w ρ z' A' h := by
  obtain ⟨S1, S2, J, T, g1, g2, W, Tt, M, R, q2, q15⟩ := I
  obtain ⟨hdg, h1, h2, h3, h4, h6, h7, h8, h9⟩ := S1
  obtain ⟨⟨a1, a2⟩, ⟨b1, b2⟩, ⟨c1, c2, c3⟩, d, e, f, g, i, j, k, l, m, n, o, p, q⟩ := id S2
  have e14 : z' h 14 = z h 14 := by
    by_cases s : S 0
    · exact (p0 s).1
    · rw [(hF h (by rw [a2]; exact s)).1]
  refine ⟨⟨hdg, h1, h2, h3, h4, h6, h7, h8, h9⟩, S2, hJ, ?_, by rw [e14]; exact g1, fun x => cg_F_keep h2 h7 (g2 (by rw [← e14]; exact x)) hF pg, fun t ht => ?_, fun t ht => ?_, fun t ht => ?_, fun t ht => ?_, ?_, ?_⟩
  · by_cases s : S 1
    · exact p1 s
    · unfold cl_T at T ⊢
      rw [(hF (r (r h 0) 2) (by rw [c2]; exact s)).1, (hF (r (r (r h 0) 2) 0) (by rw [c3]; exact s)).2]
      exact T
  · by_cases s : S (3 + t)
    · exact pw t ht s
    · exact cy_W_keep h9 (W t ht) hF (by rw [(f.2.2 t ht).2]; exact s)
  · by_cases s : S (5 + t)
    · exact pt t ht s
    · intro x hx
      have hm := (g.2.2 t ht)
      obtain ⟨⟨y1, y2, y3, y4⟩, -⟩ := h3 _ hm.1
      rw [(hF _ (by rw [(y4 x hx).2.2.2, hm.2]; exact s)).1]
      exact Tt t ht x hx
  · by_cases s : S (7 + t)
    · exact pf t ht s
    · intro x hx
      have hm := (i.2.2 t ht)
      obtain ⟨⟨y1, y2, y3, y4⟩, -⟩ := h3 _ hm.1
      rw [(cF_big h1 hF (y4 x hx).1 (by rw [(y4 x hx).2.2.2, hm.2]; exact s)).1]
      exact M t ht x hx
  · rw [e14]
    by_cases s : S (12 + t)
    · exact pr t ht s
    · rw [(hF _ (by rw [(l.2.2 t ht).2]; exact s)).1]
      exact R t ht
  · by_cases s : S 0
    · exact (p0 s).2.1
    · rw [(hF h (by rw [a2]; exact s)).1]; exact q2
  · by_cases s : S 0
    · exact (p0 s).2.2
    · rw [(hF h (by rw [a2]; exact s)).1]; exact q15
theorem wq_c11_isPlayer {p : Int} (hp : hz_rI p) {Q : Int → Prop} (h1 : (p = 1 ∨ p = 2) → Q 1) (h0 : ¬ (p = 1 ∨ p = 2) → Q 0) : wp_c11_isPlayer L K z r A p Q := by
  refine ⟨hp, fun c => ⟨by omega, h1 (Or.inl c)⟩, fun c => ⟨hp, fun c2 => ⟨by omega, h0 (by omega)⟩, fun c2 => ⟨by omega, h1 (Or.inr c2)⟩⟩⟩
theorem wq_c11_isPlaying {p : Int} (I : ci_I L K r w ρ z A h) (hp : hz_rI p) {Q : Int → Prop} (h1 : (p = 1 ∨ p = 2) → z h 14 = 1 → Q 1) (h0 : Q 0) : wp_c11_isPlaying L K z r A h p Q := by
  have g1 := I.2.2.2.2.1
  refine ⟨I.2.1.1.1, by omega, fun _ => ⟨by omega, h0⟩, fun c => wq_c11_isPlayer hp (fun hp1 => ⟨by decide, fun c9 => absurd c9 (by decide), fun _ => ⟨by omega, h1 hp1 (by omega)⟩⟩) (fun _ => ⟨by decide, fun _ => ⟨by omega, h0⟩, fun c9 => absurd rfl c9⟩)⟩
/-- a side of the game that is played -/
theorem ci_side (I : ci_I L K r w ρ z A h) {p : Int} (hp : p = 1 ∨ p = 2) (hg : z h 14 = 1) : cw_G L K 7 (r (r h 13) 1) ∧ cw_n K (r (r h 13) 1) = 2 ∧ cs_F L K r z A (cw_g K (r (r h 13) 1) (p - 1).toNat) := by
  have hF := I.2.2.2.2.2.1 hg
  obtain ⟨-, ⟨s1, s2, s3⟩, -⟩ := I.1.2.2.1 _ hF.1
  exact ⟨s1, s2, cg_F_side (q := p - 1) hF (by omega)⟩
theorem wq_c11_sideOf (I : ci_I L K r w ρ z A h) {p : Int} (hp : p = 1 ∨ p = 2) (hg : z h 14 = 1) {Q : Nat → Prop} (hQ : cs_F L K r z A (cw_g K (r (r h 13) 1) (p - 1).toNat) → Q (cw_g K (r (r h 13) 1) (p - 1).toNat)) : wp_c11_sideOf L K z r A h p Q := by
  obtain ⟨s1, s2, s3⟩ := ci_side I hp hg
  exact ⟨I.2.1.1.1, (I.2.2.2.2.2.1 hg).1, s1, by omega, hQ s3⟩
theorem wq_c7_hasSet {s : Nat} {i : Int} (hs : cw_O L K 7 s) (hz : 0 ≤ z s 0 ∧ z s 0 ≤ 10) (hi : hz_rI i) {Q : Int → Prop} (h1 : (0 ≤ i ∧ i < z s 0) → Q 1) (h0 : Q 0) : wp_c7_hasSet L K z r A s i Q := by
  refine ⟨hi, fun _ => ⟨by omega, h0⟩, fun c => ⟨hs, hi, by omega, fun _ => ⟨by omega, h0⟩, fun c2 => ⟨by omega, h1 (by omega)⟩⟩⟩
/-- calls that only look -/
theorem wq_c11_place (I : ci_I L K r w ρ z A h) {Q : Int → Prop} (hQ : ∀ x, Q x) : wp_c11_place L K z r A h Q := ⟨I.2.1.1.1, hQ _⟩
theorem wq_c11_count {y : Int} (I : ci_I L K r w ρ z A h) (hy : hz_rI y) {Q : Int → Prop} (hQ : ∀ x, Q x) : wp_c11_count L K z r A h y Q := by
  have g1 := I.2.2.2.2.1
  refine ⟨I.2.1.1.1, by omega, fun _ => hQ _, fun c => ⟨hy, fun _ => hQ _, fun c1 => ⟨hy, fun _ => hQ _, fun c2 => ?_⟩⟩⟩
  have hF := I.2.2.2.2.2.1 (by omega)
  obtain ⟨⟨a1, a2, -, -⟩, -, -⟩ := I.1.2.2.1 _ hF.1
  exact ⟨hF.1, a1, by omega, hQ _⟩
theorem wq_c11_sets {y : Int} (I : ci_I L K r w ρ z A h) (hy : hz_rI y) {Q : Int → Prop} (hQ : ∀ x, Q x) : wp_c11_sets L K z r A h y Q := by
  refine ⟨I.2.1.1.1, wq_c11_isPlaying I hy (fun hp hg => ⟨by decide, fun c => absurd c (by decide), fun _ => wq_c11_sideOf I hp hg (fun hs => ⟨hs.1, hQ _⟩)⟩) ⟨by decide, fun _ => hQ _, fun c => absurd rfl c⟩⟩
theorem wq_c11_set {p i y : Int} (I : ci_I L K r w ρ z A h) (hp : hz_rI p) (hi : hz_rI i) (hy : hz_rI y) {Q : Int → Prop} (hQ : ∀ x, Q x) : wp_c11_set L K z r A h p i y Q := by
  have no : wp_c11_set_20 L K z r A Q := hQ _
  refine ⟨I.2.1.1.1, wq_c11_isPlaying I hp (fun hp1 hg => ⟨by decide, fun _ => no, fun _ => wq_c11_sideOf I hp1 hg (fun hs => ⟨hs.1, wq_c7_hasSet hs.1 hs.2.1 hi (fun hi2 => ⟨by decide, fun _ => wq_c11_sideOf I hp1 hg (fun _ => ?_), fun _ => no⟩) ⟨by decide, fun c => absurd rfl c, fun _ => no⟩⟩)⟩) ⟨by decide, fun _ => no, fun c => absurd rfl c⟩⟩
  obtain ⟨⟨a1, a2, -, -⟩, ⟨b1, b2, -, -⟩, ⟨c1, c2, -, -⟩, -, -, -⟩ := I.1.2.2.2.2.2.2.1 _ hs.1
  have f2 := hs.2.1
  exact ⟨hy, fun _ => ⟨hs.1, b1, by omega, hQ _⟩, fun _ => ⟨fun _ => ⟨hs.1, a1, by omega, hQ _⟩, fun _ => ⟨fun _ => ⟨hs.1, c1, by omega, hQ _⟩, fun _ => hQ _⟩⟩⟩
theorem wq_c7_countPlans {s : Nat} (hs : cw_O L K 7 s) (h7 : cg_7 L K r w ρ) (hz : 0 ≤ z s 0 ∧ z s 0 ≤ 10) {Q : Int → Prop} (hQ : ∀ x : Int, hz_rI x → Q x) : wp_c7_countPlans L K z r A s Q := by
  obtain ⟨-, ⟨b1, b2, -, -⟩, -, -, -, -⟩ := h7 s hs
  intro PP hPP
  have key : ∀ (k n : Nat) (v x : Int), n + (k : Int) = z s 0 → x = (n : Int) → hz_rI v → PP v x := by
    intro k
    induction k with
    | zero => intro n v x hk ex hv; exact hPP v x ⟨hs, by omega, by omega, fun _ => hQ v hv, fun c => by omega⟩
    | succ k ih => intro n v x hk ex hv; exact hPP v x ⟨hs, by omega, by omega, fun c => by omega, fun _ => ⟨b1, by omega, fun v1 hv1 _ x1 e1 => ih (n + 1) v1 x1 (by omega) (by omega) hv1⟩⟩
  exact key (z s 0).toNat 0 1 0 (by omega) rfl (by decide)
theorem wq_c11_plans {y : Int} (I : ci_I L K r w ρ z A h) (hy : hz_rI y) {Q : Int → Prop} (hQ : ∀ x, Q x) : wp_c11_plans L K z r A h y Q := by
  refine ⟨I.2.1.1.1, wq_c11_isPlaying I hy (fun hp hg => ⟨by decide, fun c => absurd c (by decide), fun _ => wq_c11_sideOf I hp hg (fun hs => ⟨hs.1, wq_c7_countPlans hs.1 I.1.2.2.2.2.2.2.1 hs.2.1 (fun x _ => hQ x)⟩)⟩) ⟨by decide, fun _ => hQ _, fun c => absurd rfl c⟩⟩
theorem wq_c11_isGood {p : Int} (I : ci_I L K r w ρ z A h) (hp : p = 0 ∨ p = 1) (hg : z h 14 = 1) {Q : Int → Prop} (hQ : ∀ x : Int, (x = 0 ∨ x = 1) → Q x) : wp_c11_isGood L K z r A h p Q := by
  obtain ⟨s1, s2, s3⟩ := ci_side (p := p + 1) I (by omega) hg
  rw [show p + 1 - 1 = p by omega] at s3
  obtain ⟨-, -, -, -, -, ⟨f1, f2, f3⟩, -⟩ := I.2.1
  have W := I.2.2.2.2.2.2.1 p.toNat (by omega)
  exact ⟨I.2.1.1.1, f1, by omega, (I.2.2.2.2.2.1 hg).1, s1, by omega, (f3 _ (by omega)).1, wq_c9_isGood I.1.2.2.2.2.2.2.1 I.1.2.2.2.2.2.2.2.2 s3 W (fun x hx => ⟨hx, hQ x hx⟩)⟩
theorem wq_c11_good {y : Int} (I : ci_I L K r w ρ z A h) (hy : hz_rI y) {Q : Int → Prop} (hQ : ∀ x, Q x) : wp_c11_good L K z r A h y Q := by
  refine ⟨I.2.1.1.1, wq_c11_isPlaying I hy (fun hp hg => ⟨by decide, fun _ => wq_c11_isGood I (by omega) hg (fun x hx => ⟨by omega, fun _ => hQ _, fun _ => hQ _⟩), fun c => absurd c (by decide)⟩) ⟨by decide, fun c => absurd rfl c, fun _ => hQ _⟩⟩
theorem wq_c11_isKnown {y : Int} (I : ci_I L K r w ρ z A h) (hy : hz_rI y) {Q : Int → Prop} (h1 : (0 ≤ y ∧ y < 4) → z h 14 = 1 → Q 1) (h0 : Q 0) : wp_c11_isKnown L K z r A h y Q := by
  obtain ⟨-, -, -, -, -, -, -, -, -, -, ⟨l1, l2, l3⟩, -⟩ := I.2.1
  refine ⟨hy, fun _ => ⟨by omega, h0⟩, fun c => ⟨hy, fun _ => ⟨by omega, h0⟩, fun c2 => ?_⟩⟩
  have R := I.2.2.2.2.2.2.2.2.2.1 y.toNat (by omega)
  exact ⟨I.2.1.1.1, l1, by omega, (l3 _ (by omega)).1, by omega, fun _ => ⟨by omega, h0⟩, fun c3 => ⟨by omega, h1 (by omega) (R.2 (by omega))⟩⟩
theorem wq_c11_character {y : Int} (I : ci_I L K r w ρ z A h) (hy : hz_rI y) {Q : Int → Prop} (hQ : ∀ x, Q x) : wp_c11_character L K z r A h y Q := by
  have q2 := I.2.2.2.2.2.2.2.2.2.2.1
  obtain ⟨-, -, -, ⟨d1, d2, d3, d4⟩, -⟩ := I.2.1
  refine ⟨hy, fun _ => hQ _, fun c => ⟨I.2.1.1.1, hy, by omega, fun _ => hQ _, fun c2 => ⟨d1, by omega, hQ _⟩⟩⟩
theorem wq_c11_reply {p i : Int} (I : ci_I L K r w ρ z A h) (hp : hz_rI p) (hi : hz_rI i) {Q : Int → Prop} (hQ : ∀ x, Q x) : wp_c11_reply L K z r A h p i Q := by
  have no : wp_c11_reply_24 L K z r A Q := hQ _
  obtain ⟨-, -, -, -, -, -, -, -, ⟨j1, j2, j3⟩, -, ⟨l1, l2, l3⟩, -⟩ := I.2.1
  refine ⟨I.2.1.1.1, wq_c11_isPlaying I hp (fun hp1 hg => ⟨by decide, fun _ => no, fun _ => ⟨l1, by omega, (l3 _ (by omega)).1, ?_, fun _ y ey => ⟨(I.2.2.2.2.2.1 hg).1, ?_⟩, fun _ => no⟩⟩) ⟨by decide, fun _ => no, fun c => absurd rfl c⟩⟩
  · have R := I.2.2.2.2.2.2.2.2.2.1 (2 + p - 1).toNat (by omega)
    omega
  · obtain ⟨s1, s2, s3⟩ := ci_side (p := 2 - y) I (by omega) hg
    rw [show 2 - y - 1 = 1 - y by omega] at s3
    refine ⟨s1, by omega, s3.1, wq_c7_hasSet s3.1 s3.2.1 hi (fun hi2 => ⟨by decide, fun _ => hQ _, fun _ => ?_⟩) ⟨by decide, fun _ => hQ _, fun c => absurd rfl c⟩⟩
    obtain ⟨⟨a1, a2, -, -⟩, -, -, -, -⟩ := I.1.2.2.2.2.2.1 _ (j3 y.toNat (by omega)).1
    have f2 := s3.2.1
    exact ⟨j1, by omega, (j3 _ (by omega)).1, a1, by omega, hQ _⟩
theorem wq_c11_type {y n : Int} (I : ci_I L K r w ρ z A h) (hn : hz_rI n) {Q : Int → (Nat → Nat → Int) → (Nat → Nat → Int) → Prop} (hQ1 : ct_ok y n (z (r (r h 0) 2) 1) → ∀ z' A' : Nat → Nat → Int, ci_I L K r w ρ z' A' h → z' (r (r h 0) 2) 1 = z (r (r h 0) 2) 1 + n → Q (z (r (r h 0) 2) 1 + n) z' A') (hQ0 : ¬ ct_ok y n (z (r (r h 0) 2) 1) → Q (-1) z A) : wp_c11_type L K z r A h y n Q := by
  have T := I.2.2.2.1
  obtain ⟨⟨a1, a2⟩, ⟨b1, b2⟩, ⟨c1, c2, c3⟩, -⟩ := id I.2.1
  have pg := I.2.1.2.2.2.2.2.2.2.2.2.2.2.2.2.2.1
  refine ⟨a1, b1, c1, wq_c10_append T hn (fun ok z1 A1 o1 a1' T1 l1 => ⟨by decide, fun c => absurd c (by decide), fun _ => ?_⟩) (fun no => ⟨by decide, fun _ => hQ0 no, fun c => absurd rfl c⟩)⟩
  show Q (z1 (r (r h 0) 2) 1) z1 A1
  rw [l1]
  have t2 := T.2.1
  refine hQ1 ok z1 A1 (ci_keep (S := fun q => q = 1) I (fun x hx => ⟨o1 x (fun e => hx (by rw [e]; exact c2)), a1' x (fun e => hx (by rw [e]; exact c3))⟩) ?_ (by have := pg.2; show ¬ ρ (r h 13) = 1; omega) (fun e => absurd e (by decide)) (fun _ => T1) (fun i hi e => by omega) (fun i hi e => by omega) (fun i hi e => by omega) (fun i hi e => by omega)) l1
  have J := I.2.2.1
  have nd := cd_dig J.1 t2 (by decide)
  refine ⟨⟨⟨fun b hb => ⟨(J.1.1.1 b hb).1, (J.1.1.1 b hb).2.1, by rw [a1' _ (nd b hb)]; exact (J.1.1.1 b hb).2.2⟩, J.1.1.2⟩, fun b hb => ?_⟩, fun x => ?_⟩
  · have := J.1.2 b hb
    unfold cb_k at this ⊢
    rw [o1 b (cw_O_ne hb c1 (by decide)), a1' _ (nd b hb)]
    exact this
  · by_cases hx : x = r (r (r h 0) 2) 0
    · subst hx
      refine ⟨fun q => ?_, fun q => ?_, fun _ => T1.2.2.2.2.2, fun q => ?_⟩
      · have := cw_A_ne q t2; omega
      · have := cw_A_ne q t2; omega
      · have := cw_A_ne q t2; omega
    · rw [a1' x hx]; exact J.2 x
end CI

-- 18.b33
section CI
variable {L : List Nat} {K : Nat → cw_K} {r : Nat → Nat → Nat} {z A : Nat → Nat → Int} {w : Nat → Nat × Nat} {ρ : Nat → Nat} {S : Nat → Prop} {h : Nat}
theorem ci_g (I : ci_I L K r w ρ z A h) : cw_O L K 2 (r h 13) ∧ 17 ≤ ρ (r h 13) := I.2.1.2.2.2.2.2.2.2.2.2.2.2.2.2.2.1
theorem cz_M_work : 100000000000000000 * cz_M < 4294967296 ^ 32 := by
  unfold cz_M
  decide +kernel
theorem cz_M_mix : 10 * cz_M < 4294967296 ^ 32 := by
  unfold cz_M
  decide +kernel
theorem wq_c11_print {y : Int} (I : ci_I L K r w ρ z A h) (hy : hz_rI y) {Q : Int → (Nat → Nat → Int) → (Nat → Nat → Int) → Prop} (hQ : ∀ (x : Int) (z' A' : Nat → Nat → Int), ci_I L K r w ρ z' A' h → z' (r (r h 0) 2) 1 = z (r (r h 0) 2) 1 → Q x z' A') : wp_c11_print L K z r A h y Q := by
  obtain ⟨hdg, h1, h2, h3, h4, h6, h7, h8, h9⟩ := id I.1
  obtain ⟨⟨a1, a2⟩, ⟨b1, b2⟩, ⟨c1, c2, c3⟩, ⟨d1, d2, d3, d4⟩, -, -, -, -, -, -, ⟨l1, l2, l3⟩, -⟩ := id I.2.1
  have g := ci_g I
  refine ⟨a1, wq_c11_isKnown I hy (fun hy4 hg => ⟨by decide, fun _ => ⟨l1, by omega, (l3 _ (by omega)).1, ?_⟩, fun c => absurd c (by decide)⟩) ⟨by decide, fun c => absurd rfl c, fun _ => hQ _ z A I rfl⟩⟩
  obtain ⟨R1, R2⟩ := l3 y.toNat (by omega)
  obtain ⟨S9, hS⟩ : ∃ S9 : Nat → Prop, S9 = fun q => q = 0 ∨ q = 12 + y.toNat := ⟨_, rfl⟩
  refine wq_c4_write (S := S9) I.2.2.1 h1 h4 R1 (by rw [hS, R2]; exact Or.inr rfl) d1 (by omega) (by rw [hS, d4, a2]; exact Or.inl rfl) (fun v z1 A1 j1 F1 o1 hv z2 e2 => ?_)
  have F2 : cF ρ S9 z A z2 A1 := cF_trans F1 (by rw [e2]; exact cF_s (by rw [hS, a2]; exact Or.inl rfl))
  have j2 : cJ L K r z2 A1 := ⟨cb_all_z j1.1 (fun q hq => by rw [e2, cw_s_a (cw_O_ne hq a1 (by decide))]), j1.2⟩
  have hh : z1 h = z h := o1 h (cw_O_ne a1 (h4 _ R1).2.2.1.1 (by decide))
  have q15 := I.2.2.2.2.2.2.2.2.2.2.2
  have res : ∀ i, i < 4 → z2 (cw_g K (r h 9) i) 2 = z (cw_g K (r h 9) i) 2 := fun i hi => by
    rw [e2, cw_s_a (cw_O_ne (l3 i hi).1 a1 (by decide)), o1 _ (cw_O_ne (l3 i hi).1 (h4 _ R1).2.2.1.1 (by decide))]
  refine hQ _ z2 A1 (ci_keep I F2 j2 (by rw [hS]; show ¬ (ρ (r h 13) = 0 ∨ ρ (r h 13) = 12 + y.toNat); omega) (fun _ => ⟨by rw [e2, cw_s_k (by decide), hh], by rw [e2, cw_s_same]; omega, by rw [e2, cw_s_k (by decide), hh]; exact q15⟩) (fun s => by rw [hS] at s; rcases s with s | s <;> omega) (fun i hi s => by rw [hS] at s; rcases s with s | s <;> omega) (fun i hi s => by rw [hS] at s; rcases s with s | s <;> omega) (fun i hi s => by rw [hS] at s; rcases s with s | s <;> omega) (fun i hi _ => by rw [res i hi]; exact I.2.2.2.2.2.2.2.2.2.1 i hi)) ?_
  rw [e2, cw_s_a (cw_O_ne c1 a1 (by decide)), o1 _ (cw_O_ne c1 (h4 _ R1).2.2.1.1 (by decide))]
theorem wq_c11_compare {x y : Int} (I : ci_I L K r w ρ z A h) (hx : hz_rI x) (hy : hz_rI y) {Q : Int → (Nat → Nat → Int) → (Nat → Nat → Int) → Prop} (hQ : ∀ (v : Int) (z' A' : Nat → Nat → Int), ci_I L K r w ρ z' A' h → z' (r (r h 0) 2) 1 = z (r (r h 0) 2) 1 → Q v z' A') : wp_c11_compare L K z r A h x y Q := by
  obtain ⟨hdg, h1, h2, h3, h4, h6, h7, h8, h9⟩ := id I.1
  obtain ⟨⟨a1, a2⟩, -, ⟨c1, c2, c3⟩, -, -, -, -, -, -, -, ⟨l1, l2, l3⟩, -⟩ := id I.2.1
  have g := ci_g I
  have no : wp_c11_compare_34 L K z r A Q := hQ _ z A I rfl
  refine ⟨a1, wq_c11_isKnown I hx (fun hx4 _ => ⟨by decide, fun c => absurd c (by decide), fun _ => wq_c11_isKnown I hy (fun hy4 _ => ⟨by decide, fun c => absurd c (by decide), fun _ => ⟨l1, by omega, by omega, (l3 _ (by omega)).1, ?_⟩⟩) ⟨by decide, fun _ => no, fun c => absurd rfl c⟩⟩) ⟨by decide, fun _ => no, fun c => absurd rfl c⟩⟩
  obtain ⟨R1, R2⟩ := l3 x.toNat (by omega)
  obtain ⟨S9, hS⟩ : ∃ S9 : Nat → Prop, S9 = fun q => q = 12 + x.toNat := ⟨_, rfl⟩
  refine wq_c4_order (S := S9) I.2.2.1 h1 h4 R1 (l3 y.toNat (by omega)).1 (by rw [hS]; exact R2) (fun v z1 A1 j1 F1 _ o1 => ?_)
  have nf : ∀ q, cw_O L K 4 q → z1 q = z q := fun q hq => o1 q (cw_O_ne hq (h4 _ R1).2.2.1.1 (by decide)) (cw_O_ne hq (h4 _ R1).2.2.2.1.1 (by decide))
  refine hQ v z1 A1 (ci_keep I F1 j1 (by rw [hS]; show ¬ (ρ (r h 13) = 12 + x.toNat); omega) (fun s => by rw [hS] at s; omega) (fun s => by rw [hS] at s; omega) (fun i hi s => by rw [hS] at s; omega) (fun i hi s => by rw [hS] at s; omega) (fun i hi s => by rw [hS] at s; omega) (fun i hi _ => by rw [nf _ (l3 i hi).1]; exact I.2.2.2.2.2.2.2.2.2.1 i hi)) ?_
  rw [(F1 _ (by rw [hS, c2]; show ¬ (1 = 12 + x.toNat); omega)).1]
/-- whether the value that was found is got: only what is on trial changes -/
theorem wq_c11_getsValue {p : Int} (I : ci_I L K r w ρ z A h) (hp : p = 0 ∨ p = 1) (hg : z h 14 = 1) {Q : Int → (Nat → Nat → Int) → (Nat → Nat → Int) → Prop} (hQ : ∀ (x : Int) (z' A' : Nat → Nat → Int), (x = 0 ∨ x = 1) → ci_I L K r w ρ z' A' h → z' h = z h → z' (r (r h 0) 2) 1 = z (r (r h 0) 2) 1 → Q x z' A') : wp_c11_getsValue L K z r A h p Q := by
  obtain ⟨hdg, h1, h2, h3, h4, h6, h7, h8, h9⟩ := id I.1
  obtain ⟨⟨a1, a2⟩, -, ⟨c1, c2, c3⟩, -, -, -, -, ⟨i1, i2, i3⟩, -, ⟨k1, k2⟩, ⟨l1, l2, l3⟩, ⟨m1, m2⟩, -⟩ := id I.2.1
  have g := ci_g I
  obtain ⟨s1, s2, s3⟩ := ci_side (p := p + 1) I (by omega) hg
  rw [show p + 1 - 1 = p by omega] at s3
  obtain ⟨f1, f2⟩ := i3 p.toNat (by omega)
  have hF := I.2.2.2.2.2.1 hg
  have M := I.2.2.2.2.2.2.2.2.1 p.toNat (by omega)
  obtain ⟨-, ⟨t1, t2, t3⟩, -⟩ := h2 _ hF.1
  have sS := (t3 p.toNat (by omega)).2.2
  obtain ⟨Sa, hSa⟩ : ∃ Sa : Nat → Prop, Sa = fun q => q = 7 + p.toNat := ⟨_, rfl⟩
  have frame : ∀ (S9 : Nat → Prop) (z1 A1 : Nat → Nat → Int), (∀ q, S9 q → q = 7 + p.toNat ∨ q = 11 ∨ q = 16) → cF ρ S9 z A z1 A1 → cJ L K r z1 A1 → cm_M K r z1 A1 (r (cw_g K (r h 6) p.toNat) 0) cz_M → ci_I L K r w ρ z1 A1 h ∧ z1 h = z h ∧ z1 (r (r h 0) 2) 1 = z (r (r h 0) 2) 1 := by
    intro S9 z1 A1 hS9 F1 j1 M1
    have n : ∀ q, ¬ (q = 7 + p.toNat ∨ q = 11 ∨ q = 16) → ¬ S9 q := fun q hq s => hq (hS9 q s)
    refine ⟨ci_keep I F1 j1 (n _ (by omega)) (fun s => absurd s (n 0 (by omega))) (fun s => absurd s (n 1 (by omega))) (fun i hi s => absurd s (n _ (by omega))) (fun i hi s => absurd s (n _ (by omega))) (fun i hi s => ?_) (fun i hi s => ?_), (F1 h (n _ (by omega))).1, by rw [(F1 (r (r h 0) 2) (n _ (by omega))).1]⟩
    · have := hS9 _ s
      have : i = p.toNat := by omega
      rw [this]; exact M1
    · have := hS9 _ s
      omega
  refine ⟨a1, i1, by omega, hF.1, s1, by omega, f1, wq_c3_isMix (S := Sa) (M := cz_M) I.2.2.1 h1 h3 h7 f1 (by rw [hSa, f2]) s3 (by rw [hSa, sS]; show ¬ (ρ (r h 13) = 7 + p.toNat); omega) M (Int.le_of_lt cz_M_pos) cz_M_mix (fun x z1 A1 j1 F1 o1 oA1 hx => ⟨by omega, fun _ => ?_, fun _ => ?_⟩)⟩
  · have M1 : cm_M K r z1 A1 (r (cw_g K (r h 6) p.toNat) 0) cz_M := by
      intro i hi
      obtain ⟨⟨y1, y2, y3, y4⟩, ⟨u1, u2, u3, u4⟩⟩ := h3 _ f1
      have gr : r (cw_g K (r h 6) p.toNat) 0 ≠ cw_g K (r h 6) p.toNat := Ne.symm (cw_OG_ne f1 y1)
      have ne : cw_g K (r (cw_g K (r h 6) p.toNat) 0) i ≠ r (cw_g K (r h 6) p.toNat) 1 := cg_ne (y4 i hi).2.2.1 u3 (fun e => gr e.1)
      rw [(cb_k_other I.2.2.1.1.1 u1 (y4 i hi).1 ne ⟨o1, oA1⟩).2.1]
      exact M i hi
    obtain ⟨I1, zh1, zw1⟩ := frame Sa z1 A1 (fun q hq => by rw [hSa] at hq; omega) F1 j1 M1
    have hg1 : z1 h 14 = 1 := by rw [zh1]; exact hg
    have hF1 := I1.2.2.2.2.2.1 hg1
    refine ⟨by omega, k1, ?_⟩
    refine wq_c6_work (S := fun q => q = 11) (M := cz_M) j1 hdg h1 h2 h3 h6 h7 k1 k2 hF1 (by show ¬ ρ (r h 13) = 11; omega) (by omega) f1 (by rw [f2]; omega) M1 (Int.le_of_lt cz_M_pos) cz_M_work (fun z2 A2 j2 F2 => ?_)
    have M2 : cm_M K r z2 A2 (r (cw_g K (r h 6) p.toNat) 0) cz_M := by
      intro i hi
      obtain ⟨⟨y1, y2, y3, y4⟩, -⟩ := h3 _ f1
      rw [(cF_big h1 F2 (y4 i hi).1 (by rw [(y4 i hi).2.2.2, f2]; omega)).1]
      exact M1 i hi
    obtain ⟨⟨y1, y2, y3, y4⟩, -⟩ := h3 _ f1
    obtain ⟨-, -, ⟨n1, n2, n3, n4⟩, -, -⟩ := h6 _ k1
    refine wq_c6_worth h6 k1 ⟨by omega, y1, by omega, m1, ?_⟩
    show wp_c4_put L K z2 r A2 (r h 10) (cw_g K (r (r h 8) 2) 0) (cw_g K (r (cw_g K (r h 6) p.toNat) 0) 0) (z2 (r h 13) 2) _
    have lg := (j2.1.2 _ (n4 0 (by omega)).1).1
    have lp := (j2.1.2 _ (y4 0 (by omega)).1).1
    have ln := (n4 0 (by omega)).2.1
    have lq := (y4 0 (by omega)).2.1
    refine wq_c4_put (S := fun q => q = 16) j2 h1 h4 m1 m2 (n4 0 (by omega)).1 (y4 0 (by omega)).1 (by rw [(n4 0 (by omega)).2.2.2, k2, m2]; decide) (by rw [(y4 0 (by omega)).2.2.2, f2, m2]; omega) (by omega) (by omega) (fun z3 A3 j3 F3 _ => ⟨l1, by omega, ?_⟩)
    refine wq_c4_order (S := fun q => q = 16) j3 h1 h4 m1 (l3 0 (by omega)).1 m2 (fun o z4 A4 j4 F4 ho _ => ?_)
    have F : cF ρ (fun q => q = 7 + p.toNat ∨ q = 11 ∨ q = 16) z A z4 A4 := cF_trans (cF_trans (cF_trans (cF_mono F1 (fun q hq => by rw [hSa] at hq; exact Or.inl hq)) (cF_mono F2 (fun q hq => Or.inr (Or.inl hq)))) (cF_mono F3 (fun q hq => Or.inr (Or.inr hq)))) (cF_mono F4 (fun q hq => Or.inr (Or.inr hq)))
    have M4 : cm_M K r z4 A4 (r (cw_g K (r h 6) p.toNat) 0) cz_M := by
      intro i hi
      rw [(cF_big h1 (cF_trans F3 F4) (y4 i hi).1 (by rw [(y4 i hi).2.2.2, f2]; omega)).1]
      exact M2 i hi
    obtain ⟨I4, zh4, zw4⟩ := frame _ z4 A4 (fun q hq => hq) F j4 M4
    exact ⟨by omega, fun _ => ⟨by omega, hQ 0 z4 A4 (by omega) I4 zh4 zw4⟩, fun _ => ⟨by omega, hQ 1 z4 A4 (by omega) I4 zh4 zw4⟩⟩
  · have M1 : cm_M K r z1 A1 (r (cw_g K (r h 6) p.toNat) 0) cz_M := by
      intro i hi
      obtain ⟨⟨y1, y2, y3, y4⟩, ⟨u1, u2, u3, u4⟩⟩ := h3 _ f1
      have gr : r (cw_g K (r h 6) p.toNat) 0 ≠ cw_g K (r h 6) p.toNat := Ne.symm (cw_OG_ne f1 y1)
      have ne : cw_g K (r (cw_g K (r h 6) p.toNat) 0) i ≠ r (cw_g K (r h 6) p.toNat) 1 := cg_ne (y4 i hi).2.2.1 u3 (fun e => gr e.1)
      rw [(cb_k_other I.2.2.1.1.1 u1 (y4 i hi).1 ne ⟨o1, oA1⟩).2.1]
      exact M i hi
    obtain ⟨I1, zh1, zw1⟩ := frame Sa z1 A1 (fun q hq => by rw [hSa] at hq; omega) F1 j1 M1
    exact hQ 0 z1 A1 (by omega) I1 zh1 zw1
theorem wq_c11_check (I : ci_I L K r w ρ z A h) {Q : Int → (Nat → Nat → Int) → (Nat → Nat → Int) → Prop} (hQ : ∀ (x : Int) (z' A' : Nat → Nat → Int), ci_I L K r w ρ z' A' h → z' (r (r h 0) 2) 1 = z (r (r h 0) 2) 1 → Q x z' A') : wp_c11_check L K z r A h Q := by
  obtain ⟨⟨a1, a2⟩, -, -, -, -, -, -, -, -, -, ⟨l1, l2, l3⟩, -⟩ := id I.2.1
  have R := I.2.2.2.2.2.2.2.2.2.1 0 (by omega)
  have no : ∀ z1 A1 : Nat → Nat → Int, ci_I L K r w ρ z1 A1 h → z1 (r (r h 0) 2) 1 = z (r (r h 0) 2) 1 → wp_c11_check_34 L K z1 r A1 Q := fun z1 A1 I1 e1 => hQ _ z1 A1 I1 e1
  refine ⟨a1, l1, by omega, (l3 0 (by omega)).1, ?_, fun c => ?_, fun _ => hQ _ z A I rfl⟩
  · show hz_rI (z (cw_g K (r h 9) 0) 2); omega
  · have c : ¬ z (cw_g K (r h 9) 0) 2 = 0 := c
    have hg : z h 14 = 1 := R.2 (by omega)
    refine wq_c11_getsValue I (Or.inl rfl) hg (fun x z1 A1 hx I1 zh1 zw1 => ⟨by omega, fun _ => no z1 A1 I1 zw1, fun _ => ?_⟩)
    refine wq_c11_getsValue I1 (Or.inr rfl) (by rw [zh1]; exact hg) (fun y z2 A2 hy I2 zh2 zw2 => ⟨by omega, fun _ => no z2 A2 I2 (zw2.trans zw1), fun _ => hQ _ z2 A2 I2 (zw2.trans zw1)⟩)
end CI
