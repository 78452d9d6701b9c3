/-- what is answered of a game σ, if there is one (g = 1) -/
noncomputable def la_count (g : Int) (σ : Nat → Nat → Int) (y x : Int) : Prop := ((g = 1 ∧ 0 ≤ y ∧ y < 4) ∧ x = σ 0 y.toNat) ∨ (¬ (g = 1 ∧ 0 ≤ y ∧ y < 4) ∧ x = -1)
noncomputable def la_sets (g : Int) (σ : Nat → Nat → Int) (p x : Int) : Prop := ((g = 1 ∧ (p = 1 ∨ p = 2)) ∧ x = σ 1 (p - 1).toNat) ∨ (¬ (g = 1 ∧ (p = 1 ∨ p = 2)) ∧ x = -1)
noncomputable def la_plans (g : Int) (σ : Nat → Nat → Int) (p x : Int) : Prop := ((g = 1 ∧ (p = 1 ∨ p = 2)) ∧ x = sp_pl σ (p - 1).toNat) ∨ (¬ (g = 1 ∧ (p = 1 ∨ p = 2)) ∧ x = -1)
noncomputable def la_is (g : Int) (σ : Nat → Nat → Int) (p s : Int) : Prop := g = 1 ∧ (p = 1 ∨ p = 2) ∧ 0 ≤ s ∧ s < σ 1 (p - 1).toNat
noncomputable def la_set (g : Int) (σ : Nat → Nat → Int) (p s y x : Int) : Prop := (la_is g σ p s ∧ ((y = 0 ∧ x = σ (12 + (p - 1).toNat) s.toNat) ∨ (y = 1 ∧ x = σ (10 + (p - 1).toNat) s.toNat) ∨ (y = 2 ∧ x = σ (14 + (p - 1).toNat) s.toNat) ∨ (¬ y = 0 ∧ ¬ y = 1 ∧ ¬ y = 2 ∧ x = -1))) ∨ (¬ la_is g σ p s ∧ x = -1)
/-- tell: 1 no such move, 2 no such chance -/
noncomputable def la_mv (g : Int) (σ : Nat → Nat → Int) (p s m : Int) : Prop := la_is g σ p s ∧ 0 ≤ m ∧ m < σ (12 + (p - 1).toNat) s.toNat
noncomputable def la_tell (g : Int) (σ : Nat → Nat → Int) (p s m a b x : Int) : Prop := (¬ la_mv g σ p s m ∧ x = 1) ∨ (la_mv g σ p s m ∧ ¬ (1 ≤ b ∧ b ≤ 9999 ∧ 0 ≤ a ∧ a ≤ b) ∧ x = 2) ∨ (la_mv g σ p s m ∧ (1 ≤ b ∧ b ≤ 9999 ∧ 0 ≤ a ∧ a ≤ b) ∧ x = 0)
theorem la_count_u {g : Int} {σ : Nat → Nat → Int} {y x x' : Int} (h : la_count g σ y x) (h' : la_count g σ y x') : x = x' := by
  rcases h with ⟨a, b⟩ | ⟨a, b⟩ <;> rcases h' with ⟨a', b'⟩ | ⟨a', b'⟩
  · rw [b, b']
  · exact absurd a a'
  · exact absurd a' a
  · rw [b, b']
theorem la_sets_u {g : Int} {σ : Nat → Nat → Int} {y x x' : Int} (h : la_sets g σ y x) (h' : la_sets g σ y x') : x = x' := by
  rcases h with ⟨a, b⟩ | ⟨a, b⟩ <;> rcases h' with ⟨a', b'⟩ | ⟨a', b'⟩
  · rw [b, b']
  · exact absurd a a'
  · exact absurd a' a
  · rw [b, b']
theorem la_plans_u {g : Int} {σ : Nat → Nat → Int} {y x x' : Int} (h : la_plans g σ y x) (h' : la_plans g σ y x') : x = x' := by
  rcases h with ⟨a, b⟩ | ⟨a, b⟩ <;> rcases h' with ⟨a', b'⟩ | ⟨a', b'⟩
  · rw [b, b']
  · exact absurd a a'
  · exact absurd a' a
  · rw [b, b']
theorem la_set_u {g : Int} {σ : Nat → Nat → Int} {p s y x x' : Int} (h : la_set g σ p s y x) (h' : la_set g σ p s y x') : x = x' := by
  rcases h with ⟨a, b⟩ | ⟨a, b⟩ <;> rcases h' with ⟨a', b'⟩ | ⟨a', b'⟩
  · rcases b with ⟨c, d⟩ | ⟨c, d⟩ | ⟨c, d⟩ | ⟨c, c1, c2, d⟩ <;> rcases b' with ⟨c', d'⟩ | ⟨c', d'⟩ | ⟨c', d'⟩ | ⟨c', c1', c2', d'⟩ <;> first | (exfalso; omega) | (rw [d, d'])
  · exact absurd a a'
  · exact absurd a' a
  · rw [b, b']
theorem la_tell_u {g : Int} {σ : Nat → Nat → Int} {p s m a b x x' : Int} (h : la_tell g σ p s m a b x) (h' : la_tell g σ p s m a b x') : x = x' := by
  rcases h with ⟨a1, b1⟩ | ⟨a1, c1, b1⟩ | ⟨a1, c1, b1⟩ <;> rcases h' with ⟨a2, b2⟩ | ⟨a2, c2, b2⟩ | ⟨a2, c2, b2⟩
  · rw [b1, b2]
  · exact absurd a2 a1
  · exact absurd a2 a1
  · exact absurd a1 a2
  · rw [b1, b2]
  · exact absurd c2 c1
  · exact absurd a1 a2
  · exact absurd c1 c2
  · rw [b1, b2]
section CI
variable {L : List Nat} {K : Nat → cw_K} {r : Nat → Nat → Nat} {z A : Nat → Nat → Int} {w : Nat → Nat × Nat} {ρ : Nat → Nat} {h : Nat} {σ : Nat → Nat → Int}
theorem wl_c11_place (I : ci_I L K r w ρ z A h) {Q : Int → Prop} (hQ : Q (z h 15)) : wp_c11_place L K z r A h Q := ⟨I.2.1.1.1, hQ⟩
theorem wl_c11_count {y : Int} (I : ci_I L K r w ρ z A h) (hy : hz_rI y) (G : z h 14 = 1 → sg_R K r (r h 13) σ z A) {Q : Int → Prop} (hQ : ∀ x, la_count (z h 14) σ y x → Q x) : wp_c11_count L K z r A h y Q := by
  have g1 := I.2.2.2.2.1
  refine ⟨I.2.1.1.1, by omega, fun c => hQ (-1) (Or.inr ⟨by omega, rfl⟩), fun c => ⟨hy, fun c1 => hQ (-1) (Or.inr ⟨by omega, rfl⟩), fun c1 => ⟨hy, fun c2 => hQ (-1) (Or.inr ⟨by omega, rfl⟩), fun c2 => ?_⟩⟩⟩
  have hF := I.2.2.2.2.2.1 (by omega)
  obtain ⟨⟨a1, a2, -, -⟩, -, -⟩ := I.1.2.2.1 _ hF.1
  exact ⟨hF.1, a1, by omega, hQ _ (Or.inl ⟨⟨by omega, by omega, by omega⟩, (G (by omega)).1.1 y.toNat (by omega)⟩)⟩
theorem wl_c11_isPlaying {p : Int} (I : ci_I L K r w ρ z A h) (hp : hz_rI p) {Q : Int → Prop} (h1 : (p = 1 ∨ p = 2) → z h 14 = 1 → Q 1) (h0 : ¬ (z h 14 = 1 ∧ (p = 1 ∨ p = 2)) → Q 0) : wp_c11_isPlaying L K z r A h p Q := by
  have g1 := I.2.2.2.2.1
  refine ⟨I.2.1.1.1, by omega, fun c => ⟨by omega, h0 (by omega)⟩, fun c => wq_c11_isPlayer hp (fun hp1 => ⟨by decide, fun c9 => absurd c9 (by decide), fun _ => ⟨by omega, h1 hp1 (by omega)⟩⟩) (fun np => ⟨by decide, fun _ => ⟨by omega, h0 (fun q => np q.2)⟩, fun c9 => absurd rfl c9⟩)⟩
theorem wl_c11_sets {y : Int} (I : ci_I L K r w ρ z A h) (hy : hz_rI y) (G : z h 14 = 1 → sg_R K r (r h 13) σ z A) {Q : Int → Prop} (hQ : ∀ x, la_sets (z h 14) σ y x → Q x) : wp_c11_sets L K z r A h y Q := by
  refine ⟨I.2.1.1.1, wl_c11_isPlaying I hy (fun hp hg => ⟨by decide, fun c => absurd c (by decide), fun _ => wq_c11_sideOf I hp hg (fun hs => ⟨hs.1, hQ _ (Or.inl ⟨⟨hg, hp⟩, ((G hg).2 (y - 1).toNat (by omega)).1⟩)⟩)⟩) (fun no => ⟨by decide, fun _ => hQ (-1) (Or.inr ⟨no, rfl⟩), fun c => absurd rfl c⟩)⟩
theorem wl_c7_hasSet {s : Nat} {i : Int} (hs : cw_O L K 7 s) (hz : 0 ≤ z s 0 ∧ z s 0 ≤ 10) (hi : hz_rI i) {Q : Int → Prop} (h1 : (0 ≤ i ∧ i < z s 0) → Q 1) (h0 : ¬ (0 ≤ i ∧ i < z s 0) → Q 0) : wp_c7_hasSet L K z r A s i Q := by
  refine ⟨hi, fun c => ⟨by omega, h0 (by omega)⟩, fun c => ⟨hs, hi, by omega, fun c2 => ⟨by omega, h0 (by omega)⟩, fun c2 => ⟨by omega, h1 (by omega)⟩⟩⟩
theorem wl_c11_set {p i y : Int} (I : ci_I L K r w ρ z A h) (hp : hz_rI p) (hi : hz_rI i) (hy : hz_rI y) (G : z h 14 = 1 → sg_R K r (r h 13) σ z A) {Q : Int → Prop} (hQ : ∀ x, la_set (z h 14) σ p i y x → Q x) : wp_c11_set L K z r A h p i y Q := by
  have no : ¬ la_is (z h 14) σ p i → wp_c11_set_20 L K z r A Q := fun n => hQ (-1) (Or.inr ⟨n, rfl⟩)
  refine ⟨I.2.1.1.1, wl_c11_isPlaying I hp (fun hp1 hg => ⟨by decide, fun c => absurd c (by decide), fun _ => wq_c11_sideOf I hp1 hg (fun hs => ⟨hs.1, ?_⟩)⟩) (fun n => ⟨by decide, fun _ => no (fun q => n ⟨q.1, q.2.1⟩), fun c => absurd rfl c⟩)⟩
  obtain ⟨e1, e2⟩ := (G hg).2 (p - 1).toNat (by omega)
  refine wl_c7_hasSet hs.1 hs.2.1 hi (fun hi2 => ⟨by decide, fun _ => wq_c11_sideOf I hp1 hg (fun _ => ?_), fun c => absurd c (by decide)⟩) (fun n => ⟨by decide, fun c => absurd rfl c, fun _ => no (fun q => n ⟨q.2.2.1, by rw [e1]; exact q.2.2.2⟩)⟩)
  obtain ⟨⟨a1, a2, -, -⟩, ⟨b1, b2, -, -⟩, ⟨c1, c2, -, -⟩, -, -, -⟩ := I.1.2.2.2.2.2.2.1 _ hs.1
  have f2 := hs.2.1
  obtain ⟨v1, v2, v3, -⟩ := e2 i.toNat (by omega)
  have yes : la_is (z h 14) σ p i := ⟨hg, hp1, by omega, by omega⟩
  exact ⟨hy, fun c => ⟨hs.1, b1, by omega, hQ _ (Or.inl ⟨yes, Or.inl ⟨c, v2⟩⟩)⟩, fun n0 => ⟨fun c => ⟨hs.1, a1, by omega, hQ _ (Or.inl ⟨yes, Or.inr (Or.inl ⟨c, v1⟩)⟩)⟩, fun n1 => ⟨fun c => ⟨hs.1, c1, by omega, hQ _ (Or.inl ⟨yes, Or.inr (Or.inr (Or.inl ⟨c, v3⟩))⟩)⟩, fun n2 => hQ (-1) (Or.inl ⟨yes, Or.inr (Or.inr (Or.inr ⟨n0, n1, n2, rfl⟩))⟩)⟩⟩⟩
theorem wl_c11_plans {y : Int} (I : ci_I L K r w ρ z A h) (hy : hz_rI y) (G : z h 14 = 1 → sg_R K r (r h 13) σ z A) {Q : Int → Prop} (hQ : ∀ x, la_plans (z h 14) σ y x → Q x) : wp_c11_plans L K z r A h y Q := by
  refine ⟨I.2.1.1.1, wl_c11_isPlaying I hy (fun hp hg => ⟨by decide, fun c => absurd c (by decide), fun _ => wq_c11_sideOf I hp hg (fun hs => ⟨hs.1, ?_⟩)⟩) (fun no => ⟨by decide, fun _ => hQ (-1) (Or.inr ⟨no, rfl⟩), fun c => absurd rfl c⟩)⟩
  obtain ⟨e1, e2⟩ := (G hg).2 (y - 1).toNat (by omega)
  obtain ⟨f1, f2, f3, f4⟩ := hs
  refine wq_c7_countPlansE f1 I.1.2.2.2.2.2.2.1 f2 (fun i hi => (f4 i hi).1) (fun _ => hQ _ (Or.inl ⟨⟨hg, hp⟩, ?_⟩))
  unfold sp_pl
  rw [e1]
  exact cPm_congr (fun i hi => (e2 i (by omega)).2.1)
theorem wl_c7_hasMove {s : Nat} {i j : Int} (h7 : cg_7 L K r w ρ) (F : cs_F L K r z A s) (hi : hz_rI i) (hj : hz_rI j) {Q : Int → Prop} (h1 : (0 ≤ i ∧ i < z s 0) → (0 ≤ j ∧ j < A (r s 2) i.toNat) → j < 4 → Q 1) (h0 : ¬ ((0 ≤ i ∧ i < z s 0) ∧ (0 ≤ j ∧ j < A (r s 2) i.toNat)) → Q 0) : wp_c7_hasMove L K z r A s i j Q := by
  obtain ⟨f1, f2, f3, f4⟩ := F
  obtain ⟨-, ⟨b1, b2, -, -⟩, -, -, -, -⟩ := h7 s f1
  have no : ¬ ((0 ≤ i ∧ i < z s 0) ∧ (0 ≤ j ∧ j < A (r s 2) i.toNat)) → wp_c7_hasMove_26 L K z r A Q := fun n => ⟨Or.inl rfl, h0 n⟩
  refine ⟨f1, wl_c7_hasSet f1 f2 hi (fun hi2 => ⟨by decide, fun q => absurd q (by decide), fun _ => ⟨hj, fun c => no (by omega), fun c => ⟨b1, by omega, hj, ?_, fun c2 => no (by omega), fun c2 => ⟨Or.inr rfl, ?_⟩⟩⟩⟩) (fun n => ⟨by decide, fun _ => no (fun q => n q.1), fun q => absurd rfl q⟩)⟩
  · have := (f4 i.toNat (by omega)).1
    omega
  · have := (f4 i.toNat (by omega)).1
    exact h1 hi2 (by omega) (by omega)
theorem wl_c11_tell {y1 y2 y3 y4 y5 : Int} (I : ci_I L K r w ρ z A h) (e1 : hz_rI y1) (e2 : hz_rI y2) (e3 : hz_rI y3) (e4 : hz_rI y4) (e5 : hz_rI y5) (G : z h 14 = 1 → sg_R K r (r h 13) σ z A) {Q : (Nat → Nat → Int) → Prop} {X : String → (Nat → Nat → Int) → Prop} (hQ : ∀ A' : Nat → Nat → Int, ci_I L K r w ρ z A' h → ci_D ρ h z A z A' → la_tell (z h 14) σ y1 y2 y3 y4 y5 0 → Q A') (hX1 : la_tell (z h 14) σ y1 y2 y3 y4 y5 1 → X "java/lang/IndexOutOfBoundsException" A) (hX2 : la_tell (z h 14) σ y1 y2 y3 y4 y5 2 → X "java/lang/IllegalArgumentException" A) : wp_c11_tell L K z r A h y1 y2 y3 y4 y5 Q X := by
  obtain ⟨hdg, h1, h2, h3, h4, h6, h7, h8, h9⟩ := id I.1
  obtain ⟨⟨a1, a2⟩, -, -, -, -, ⟨f1, f2, f3⟩, -⟩ := id I.2.1
  have pg := (ci_g I).2
  have no : ¬ la_mv (z h 14) σ y1 y2 y3 → wp_c11_tell_21 L K z r A Q X := fun n => hX1 (Or.inl ⟨n, rfl⟩)
  refine ⟨a1, wl_c11_isPlaying I e1 (fun hp hg => ⟨by decide, fun q => absurd q (by decide), fun _ => wq_c11_sideOf I hp hg (fun F => ⟨F.1, ?_⟩)⟩) (fun n => ⟨by decide, fun _ => no (fun q => n ⟨q.1.1, q.1.2.1⟩), fun q => absurd rfl q⟩)⟩
  obtain ⟨s1, s2⟩ := (G hg).2 (y1 - 1).toNat (by omega)
  have s10 := F.2.1
  refine wl_c7_hasMove h7 F e2 e3 (fun hi hj hj4 => ⟨by decide, fun _ => ?_, fun q => absurd q (by decide)⟩) (fun n => ⟨by decide, fun q => absurd rfl q, fun _ => no (fun q => n ?_)⟩)
  · have v2 := (s2 y2.toNat (by omega)).2.1
    have yes : la_mv (z h 14) σ y1 y2 y3 := ⟨⟨hg, hp, by omega, by omega⟩, by omega, by omega⟩
    have no2 : ¬ (1 ≤ y5 ∧ y5 ≤ 9999 ∧ 0 ≤ y4 ∧ y4 ≤ y5) → wp_c11_tell_57 L K z r A Q X := fun n => hX2 (Or.inr (Or.inl ⟨yes, n, rfl⟩))
    refine ⟨e5, fun c => no2 (by omega), fun g1 => ⟨e5, fun c => no2 (by omega), fun g2 => ⟨e4, fun c => no2 (by omega), fun g3 => ⟨e4, e5, fun g4 => ?_, fun c => no2 (by omega)⟩⟩⟩⟩
    obtain ⟨g5, g6⟩ := f3 (y1 - 1).toNat (by omega)
    have W := I.2.2.2.2.2.2.1 (y1 - 1).toNat (by omega)
    refine ⟨f1, by omega, g5, wq_c9_putChance (S := fun q => q = 3 + (y1 - 1).toNat) I.2.2.1 hdg h9 g6 W (by omega) (by omega) (by omega) (by omega) (fun A' J' F' W' => hQ A' (ci_keep I F' J' (by show ¬ ρ (r h 13) = _; omega) (fun q => by omega) (fun q => by omega) (fun i hi q => ?_) (fun i hi q => by omega) (fun i hi q => by omega) (fun i hi q => by omega)) ⟨cF_mono F' (fun q hq => by omega), fun _ _ => rfl⟩ (Or.inr (Or.inr ⟨yes, by omega, rfl⟩)))⟩
    have : i = (y1 - 1).toNat := by omega
    rw [this]
    exact W'
  · obtain ⟨⟨q1, q2, q3, q4⟩, q5, q6⟩ := q
    have v2 := (s2 y2.toNat (by omega)).2.1
    exact ⟨⟨q3, by rw [s1]; exact q4⟩, q5, by rw [v2]; exact q6⟩
end CI
section MI
variable {z : Nat → Int} {A : Nat → Nat → Int} {σ : Nat → Nat → Int}
theorem wl_place {Q : Int → (Nat → Int) → Prop} (hI : mi_I z A) (hQ : ∀ t, mi_I (lp_U z 3 t) A → Q (z 6) (lp_U z 3 t)) : wp_place z A Q := by
  intro z1 hz1
  subst hz1
  have e : lp_U z 3 0 6 = z 6 := lp_U_other (by decide)
  rw [e]
  exact hQ 0 (mi_3 hI 0)
theorem wl_count {y : Int} {Q : Int → (Nat → Int) → Prop} (hI : mi_I z A) (hw : hz_rI y) (G : z 34 = 1 → mg_R (z 32).toNat A σ) (hQ : ∀ r t, mi_I (lp_U z 3 t) A → la_count (z 34) σ y r → Q r (lp_U z 3 t)) : wp_count z A y Q := by
  intro z1 hz1
  subst hz1
  have hI1 := mi_3 hI 0
  obtain ⟨g, hg, hgz, hgt⟩ := mi_g hI1
  have hr : 0 ≤ lp_U z 3 0 32 ∧ lp_U z 3 0 32 < 2 := by omega
  have e4 : lp_U z 3 0 34 = z 34 := lp_U_other (by decide)
  have e2 : lp_U z 3 0 32 = z 32 := lp_U_other (by decide)
  have hk := hI.2.2.1
  exact ⟨mi_k hI1, fun c => ⟨hw, fun c0 => ⟨hw, fun c1 => ⟨hw, fun c2 => ⟨hw, fun c3 => hQ (-1) 0 hI1 (Or.inr ⟨by omega, rfl⟩), fun d => ⟨hr, hQ _ 0 hI1 (Or.inl ⟨by omega, by rw [e2, d]; exact (G (by omega)).1.1.2.2.2⟩)⟩⟩, fun d => ⟨hr, hQ _ 0 hI1 (Or.inl ⟨by omega, by rw [e2, d]; exact (G (by omega)).1.1.2.2.1⟩)⟩⟩, fun d => ⟨hr, hQ _ 0 hI1 (Or.inl ⟨by omega, by rw [e2, d]; exact (G (by omega)).1.1.2.1⟩)⟩⟩, fun d => ⟨hr, hQ _ 0 hI1 (Or.inl ⟨by omega, by rw [e2, d]; exact (G (by omega)).1.1.1⟩)⟩⟩, fun c => hQ (-1) 0 hI1 (Or.inr ⟨by omega, rfl⟩)⟩
theorem wl_isPlayer {p : Int} {Q : Int → Prop} (hI : mi_I z A) (hp : hz_rI p) (h1 : z 34 = 1 → (p = 1 ∨ p = 2) → Q 1) (h0 : ¬ (z 34 = 1 ∧ (p = 1 ∨ p = 2)) → Q 0) : wp_isPlayer z A p Q := by
  have hk := hI.2.2.1
  exact ⟨mi_k hI, fun c => ⟨Or.inl rfl, h0 (by omega)⟩, fun c => ⟨hp, fun d => ⟨Or.inr rfl, h1 (by omega) (Or.inl d)⟩, fun d => ⟨hp, fun e => ⟨Or.inl rfl, h0 (by omega)⟩, fun e => ⟨Or.inr rfl, h1 (by omega) (Or.inr e)⟩⟩⟩⟩
theorem wl_isSet {p s : Int} {Q : Int → Prop} (hI : mi_I z A) (hp : hz_rI p) (hs : hz_rI s) (G : z 34 = 1 → mg_R (z 32).toNat A σ) (h1 : la_is (z 34) σ p s → Q 1) (h0 : ¬ la_is (z 34) σ p s → Q 0) : wp_isSet z A p s Q := by
  refine wl_isPlayer hI hp (fun h2 h3 => ⟨by decide, fun q => absurd q (by decide), fun _ => ⟨hs, fun d => ⟨Or.inl rfl, h0 (fun q => by have := q.2.2.1; omega)⟩, fun d => ?_⟩⟩) (fun n => ⟨by decide, fun _ => ⟨Or.inl rfl, h0 (fun q => n ⟨q.1, q.2.1⟩)⟩, fun q => absurd rfl q⟩)
  have hS := (mi_S hI h2 h3 rfl).1
  have n1 := (G h2).2.1 (p - 1).toNat (by omega)
  exact wq_setsOf hI h3 ⟨hs, ⟨by omega, by omega⟩, fun e => ⟨Or.inl rfl, h0 (fun q => by have := q.2.2.2; omega)⟩, fun e => ⟨Or.inr rfl, h1 ⟨h2, h3, by omega, by omega⟩⟩⟩
theorem wl_sets {p : Int} {Q : Int → (Nat → Int) → Prop} (hI : mi_I z A) (hp : hz_rI p) (G : z 34 = 1 → mg_R (z 32).toNat A σ) (hQ : ∀ r t, mi_I (lp_U z 3 t) A → la_sets (z 34) σ p r → Q r (lp_U z 3 t)) : wp_sets z A p Q := by
  intro z1 hz1
  subst hz1
  have hI1 := mi_3 hI 0
  have e4 : lp_U z 3 0 34 = z 34 := lp_U_other (by decide)
  have e2 : lp_U z 3 0 32 = z 32 := lp_U_other (by decide)
  refine wl_isPlayer hI1 hp (fun c d => ⟨by decide, fun q => absurd q (by decide), fun _ => wq_setsOf hI1 d (hQ _ 0 hI1 (Or.inl ⟨⟨by omega, d⟩, ?_⟩))⟩) (fun n => ⟨by decide, fun _ => hQ (-1) 0 hI1 (Or.inr ⟨by rw [e4] at n; exact n, rfl⟩), fun q => absurd rfl q⟩)
  rw [e2]
  exact (G (by omega)).2.1 (p - 1).toNat (by omega)
/-- as of z, so when 'nothing thrown' is noted -/
theorem mg_G3 (G : z 34 = 1 → mg_R (z 32).toNat A σ) : lp_U z 3 0 34 = 1 → mg_R (lp_U z 3 0 32).toNat A σ := by
  have e4 : lp_U z 3 0 34 = z 34 := lp_U_other (by decide)
  have e2 : lp_U z 3 0 32 = z 32 := lp_U_other (by decide)
  rw [e4, e2]
  exact G
theorem wl_set {p s y : Int} {Q : Int → (Nat → Int) → Prop} (hI : mi_I z A) (hp : hz_rI p) (hs : hz_rI s) (hw : hz_rI y) (G : z 34 = 1 → mg_R (z 32).toNat A σ) (hQ : ∀ r t, mi_I (lp_U z 3 t) A → la_set (z 34) σ p s y r → Q r (lp_U z 3 t)) : wp_set z A p s y Q := by
  intro z1 hz1 x hx
  subst hz1
  have hI1 := mi_3 hI 0
  have e4 : lp_U z 3 0 34 = z 34 := lp_U_other (by decide)
  have e2 : lp_U z 3 0 32 = z 32 := lp_U_other (by decide)
  obtain ⟨g, hg, hgz, hgt⟩ := mi_g hI
  refine wl_isSet (σ := σ) hI1 hp hs (mg_G3 G) (fun yes => ⟨by decide, fun _ => ?_, fun q => absurd q (by decide)⟩) (fun n => ⟨by decide, fun q => absurd rfl q, fun _ => hQ (-1) 0 hI1 (Or.inr ⟨by rw [e4] at n; exact n, rfl⟩)⟩)
  rw [e4] at yes
  rw [e2] at hx
  obtain ⟨y1, y2, y3, y4⟩ := id yes
  have G1 := G y1
  have b10 := (G1.2.2 (p - 1).toNat (by omega)).1
  have hr2 : 0 ≤ x ∧ x < 40 := by omega
  have ex : 20 * (z 32).toNat + (10 * (p - 1).toNat + s.toNat) = x.toNat := by omega
  obtain ⟨v1, v2, v3⟩ := (G1.2.2 (p - 1).toNat (by omega)).2 s.toNat (by omega)
  rw [ex] at v1 v2 v3
  exact ⟨hw, fun n0 => ⟨hw, fun n1 => ⟨hw, fun n2 => hQ (-1) 0 hI1 (Or.inl ⟨yes, Or.inr (Or.inr (Or.inr ⟨n0, n1, n2, rfl⟩))⟩), fun c => ⟨hr2, hQ _ 0 hI1 (Or.inl ⟨yes, Or.inr (Or.inr (Or.inl ⟨c, v3⟩))⟩)⟩⟩, fun c => ⟨hr2, hQ _ 0 hI1 (Or.inl ⟨yes, Or.inr (Or.inl ⟨c, v1⟩)⟩)⟩⟩, fun c => ⟨hr2, hQ _ 0 hI1 (Or.inl ⟨yes, Or.inl ⟨c, v2⟩⟩)⟩⟩
theorem mg_pl {g p : Nat} (hp : p < 2) (h : mg_R g A σ) : lq_pp A g p (A 26 (2 * g + p)).toNat = sp_pl σ p := by
  have n1 := h.2.1 p hp
  obtain ⟨b, e⟩ := h.2.2 p hp
  have : ∀ m : Nat, (m : Int) ≤ σ 1 p → lq_pp A g p m = cPm (σ (12 + p)) m := by
    intro m
    induction m with
    | zero => intro _; rfl
    | succ m ih =>
      intro hm
      simp only [lq_pp, cPm]
      rw [ih (by omega), (e m (by omega)).2.1]
  unfold sp_pl
  rw [n1]
  exact this _ (by omega)
theorem wl_plans {p : Int} {Q : Int → (Nat → Int) → Prop} (hI : mi_I z A) (hp : hz_rI p) (G : z 34 = 1 → mg_R (z 32).toNat A σ) (hQ : ∀ r t, mi_I (lp_U z 3 t) A → la_plans (z 34) σ p r → Q r (lp_U z 3 t)) : wp_plans z A p Q := by
  intro z1 hz1
  subst hz1
  have hI1 := mi_3 hI 0
  have e4 : lp_U z 3 0 34 = z 34 := lp_U_other (by decide)
  have e2 : lp_U z 3 0 32 = z 32 := lp_U_other (by decide)
  refine wl_isPlayer hI1 hp (fun c d => ⟨by decide, fun q => absurd q (by decide), fun _ => ?_⟩) (fun n => ⟨by decide, fun _ => hQ (-1) 0 hI1 (Or.inr ⟨by rw [e4] at n; exact n, rfl⟩), fun q => absurd rfl q⟩)
  obtain ⟨g, hg, hgz, hgt⟩ := mi_g hI1
  have hS := mi_S hI1 c d hgt
  have G1 := mg_pl (p := (p - 1).toNat) (by omega) (mg_G3 G c)
  rw [hgt] at G1
  have ep : p - 1 = (((p - 1).toNat : Nat) : Int) := by omega
  have res : la_plans (z 34) σ p (lq_pp A g (p - 1).toNat (A 26 (2 * g + (p - 1).toNat)).toNat) := Or.inl ⟨⟨by omega, d⟩, G1⟩
  rw [hgz, ep]
  exact wq_plansOf hg (by omega) hS.1 (hQ _ 0 hI1 res)
theorem wl_tell {p s mv a b : Int} {Q : (Nat → Int) → (Nat → Nat → Int) → Prop} (hI : mi_I z A) (hp : hz_rI p) (hs : hz_rI s) (hm : hz_rI mv) (ha : hz_rI a) (hb : hz_rI b) (G : z 34 = 1 → mg_R (z 32).toNat A σ) (hQ : ∀ t B, mi_I (lp_U z 3 t) B → md_Z A B → la_tell (z 34) σ p s mv a b t → Q (lp_U z 3 t) B) : wp_tell z A p s mv a b Q := by
  have no : ∀ t : Int, 1 ≤ t → t ≤ 2 → la_tell (z 34) σ p s mv a b t → wp_tell_77 z A p s mv a b t Q := by
    intro t t1 t2 ht z1 hz1
    subst hz1
    rw [lp_U_same]
    exact ⟨⟨by omega, by omega⟩, fun _ => hQ t A (mi_3 hI t) (md_refl A) ht, fun c => by omega⟩
  have no1 : ¬ la_mv (z 34) σ p s mv → wp_tell_33 z A p s mv a b Q := fun n => ⟨⟨by decide, by decide⟩, fun c => absurd rfl c, fun _ => no 1 (by decide) (by decide) (Or.inl ⟨n, rfl⟩)⟩
  refine wl_isSet (σ := σ) hI hp hs G (fun yes => ⟨by decide, fun q => absurd q (by decide), fun _ => ⟨hm, fun c => no1 (fun q => by have := q.2.1; omega), fun d => ?_⟩⟩) (fun n => ⟨by decide, fun _ => no1 (fun q => n q.1), fun q => absurd rfl q⟩)
  obtain ⟨h2, h3, h4, h5⟩ := id yes
  obtain ⟨g, hg, hgz, hgt⟩ := mi_g hI
  have hS := mi_S hI h2 h3 hgt
  have G1 := G h2
  have n1 := G1.2.1 (p - 1).toNat (by omega)
  have v2 := ((G1.2.2 (p - 1).toNat (by omega)).2 s.toNat (by omega)).2.1
  rw [hgt] at n1 v2
  have hS1 := hS.1
  have hS2 := hS.2 s.toNat (by omega)
  refine wq_movesOf hI (by omega) (by omega) ?_
  have ei : 20 * (z 32).toNat + (10 * (p - 1) + s).toNat = 20 * g + (10 * (p - 1).toNat + s.toNat) := by omega
  rw [ei]
  refine ⟨hm, ⟨by omega, by omega⟩, fun e => no1 (fun q => by have := q.2.2; omega), fun e => ?_⟩
  have ym : la_mv (z 34) σ p s mv := ⟨yes, by omega, by omega⟩
  have no2 : ¬ (1 ≤ b ∧ b ≤ 9999 ∧ 0 ≤ a ∧ a ≤ b) → wp_tell_72 z A p s mv a b Q := fun n => no 2 (by decide) (by decide) (Or.inr (Or.inl ⟨ym, n, rfl⟩))
  refine ⟨⟨by decide, by decide⟩, fun _ => ⟨hb, fun _ => no2 (by omega), fun b1 => ⟨hb, fun _ => no2 (by omega), fun b2 => ⟨ha, fun _ => no2 (by omega), fun a1 => ⟨ha, hb, fun ab z1 hz1 => ?_, fun _ => no2 (by omega)⟩⟩⟩⟩, fun c0 => absurd c0 (by decide)⟩
  subst hz1
  rw [lp_U_same]
  refine ⟨⟨by decide, by decide⟩, fun c0 => absurd rfl c0, fun _ x hx => ⟨⟨by omega, by omega⟩, fun A4 hA4 => ⟨⟨by omega, by omega⟩, fun A5 hA5 => hQ 0 A5 ?_ (fun k k2 k49 => by rw [hA5, hb_s_other (by omega), hA4, hb_s_other (by omega)]) (Or.inr (Or.inr ⟨ym, by omega, rfl⟩))⟩⟩⟩
  have hI1 := mi_3 hI 0
  obtain ⟨a1', a2, a3, a4, a5, a6, a7, a8, a9, a10⟩ := hI1
  have e : ∀ k, k ≠ 49 → k ≠ 50 → A5 k = A k := fun k k1 k2 => by rw [hA5, hb_s_other k2, hA4, hb_s_other k1]
  have ep : ∀ g p n, lq_pp A5 g p n = lq_pp A g p n := fun g p n => by
    induction n with
    | zero => rfl
    | succ n ih => simp only [lq_pp]; rw [ih, e 28 (by decide) (by decide)]
  unfold mi_I
  rw [e 4 (by decide) (by decide), e 52 (by decide) (by decide), e 51 (by decide) (by decide)]
  refine ⟨a1', a2, a3, a4, a5, fun ck => ?_, (hb_arr (e 0 (by decide) (by decide)) (e 1 (by decide) (by decide)) (e 2 (by decide) (by decide))).1 a7, a8, a9, a10⟩
  obtain ⟨b1', b2', b3'⟩ := a6 ck
  have hW : mg_W A5 := by
    intro i hi
    have h49 : A5 49 i = if i = x.toNat then a else A 49 i := by
      rw [hA5, hb_s_other (by decide), hA4, lq_s_fun]
      rfl
    have h50 : A5 50 i = if i = x.toNat then b else A 50 i := by
      rw [hA5, lq_s_fun, hA4, hb_s_other (by decide)]
      rfl
    rw [h49, h50]
    split
    · exact ⟨⟨by omega, by omega⟩, by omega, by omega⟩
    · exact b3' i hi
  refine ⟨?_, ?_, hW⟩
  · unfold mg_G mg_E mg_S at *
    rw [e 14 (by decide) (by decide), e 19 (by decide) (by decide), e 20 (by decide) (by decide), e 21 (by decide) (by decide), e 22 (by decide) (by decide), e 23 (by decide) (by decide), e 25 (by decide) (by decide), e 26 (by decide) (by decide), e 28 (by decide) (by decide), ep, ep]
    exact b1'
  · unfold mg_D at *
    rw [e 14 (by decide) (by decide), e 20 (by decide) (by decide), e 21 (by decide) (by decide), e 22 (by decide) (by decide)]
    exact b2'
end MI
theorem wl_solveQ {z : Nat → Int} {A : Nat → Nat → Int} {Q : (Nat → Int) → (Nat → Nat → Int) → Prop} (hk : z 34 = 0 ∨ z 34 = 1) (hG : z 34 = 1 → ∃ g : Nat, g < 2 ∧ z 32 = (g : Int) ∧ mg_G A g) (hok : hb_ok A) (hpl : ∀ s, 0 ≤ A 52 s ∧ A 52 s ≤ 100) (hth : ∀ s, A 51 s = 0 ∨ A 51 s = 1)
    (hQ : ∀ t B, ((t = 0 ∧ z 34 = 1) ∨ (t = 1 ∧ z 34 = 0)) → ms_Z A B → hb_ok B → (∀ s, 0 ≤ B 52 s ∧ B 52 s ≤ 100) → (∀ s, B 51 s = 0 ∨ B 51 s = 1) → B 53 = A 53 → (B 56 = A 56 ∧ ∀ i, i = 2 ∨ i = 3 → B 51 i = A 51 i) → Q (lp_U z 3 t) B) : wp_solve z A Q := by
  refine ⟨by rcases hk with h | h <;> rw [h] <;> exact ⟨by decide, by decide⟩, fun c z1 hz1 => ?_, fun c z1 hz1 => ?_⟩
  · have e3 : z1 3 = 1 := by rw [hz1]; rfl
    rw [e3]
    refine ⟨⟨by decide, by decide⟩, fun d => by omega, fun _ => ?_⟩
    rw [hz1]
    exact hQ 1 A (Or.inr ⟨rfl, c⟩) (ms_Z_refl A) hok hpl hth rfl ⟨rfl, fun _ _ => rfl⟩
  · have e3 : z1 3 = 0 := by rw [hz1]; rfl
    have e32 : z1 32 = z 32 := by rw [hz1]; rfl
    obtain ⟨g, hg, hgz, hE, hS0, hS1, hp0, hp1, hcm⟩ := hG (hk.resolve_left c)
    rw [e3]
    refine ⟨⟨by decide, by decide⟩, fun _ => ?_, fun d => by omega⟩
    rw [e32, hgz]
    have q0 := lq_pp_pos hS0 (A 26 (2 * g + 0)).toNat (by have := hS0.1; omega)
    have q1 := lq_pp_pos hS1 (A 26 (2 * g + 1)).toNat (by have := hS1.1; omega)
    refine wq_plansOf (p := 0) hg (by decide) hS0.1 (wq_plansOf (p := 1) hg (by decide) hS1.1 ?_)
    obtain ⟨r, hr⟩ : ∃ r : Nat, lq_pp A g 0 (A 26 (2 * g + 0)).toNat = (r : Int) := ⟨(lq_pp A g 0 (A 26 (2 * g + 0)).toNat).toNat, by omega⟩
    obtain ⟨c', hc'⟩ : ∃ r : Nat, lq_pp A g 1 (A 26 (2 * g + 1)).toNat = (r : Int) := ⟨(lq_pp A g 1 (A 26 (2 * g + 1)).toNat).toNat, by omega⟩
    rw [hr, hc']
    refine wq_fill (g := g) (n0 := (A 26 (2 * g + 0)).toNat) (n1 := (A 26 (2 * g + 1)).toNat) (by rw [e32]; exact hgz) hg hE (by have := hS0.1; omega) (by have := hS0.1; omega) (by have := hS1.1; omega) (by have := hS1.1; omega) (fun s hs => by have := hS0.2 s (by have := hS0.1; omega); omega) (fun s hs => by have := hS1.2 s (by have := hS1.1; omega); omega) hpl (by omega) (by omega) hok (fun x B a hZ hokB hplB haB hx0 hx1 => ?_)
    refine wq_work (a := a) (by omega) (by omega) (by omega) (by omega) haB hokB (fun C hY hokC hal hal2 hbe hbe2 => ?_)
    have hlen : ∀ (E : Nat → Nat → Int), hb_ok E → ∀ y : Int, 0 ≤ y → y < 4243 → E 1 y.toNat ≤ 130 := fun E hE' y y0 y1 => by
      have h1 := (hE' y y0 (by omega)).1
      have h2 : hb_r y = 130 := by unfold hb_r; rw [if_neg (by omega)]
      rw [h2] at h1
      exact h1.2
    have r3 : hb_r 4243 = 270 := by decide
    have r4 : hb_r 4244 = 270 := by decide
    refine wq_bigSet (by decide) (by decide) (by omega) (fun D hXD hWD hvD hlD => ?_)
    have hokD := hb_ok_one hokC hXD hWD
    have valD : hb_v D (65 * (r : Int) + c') = hb_v C (65 * (r : Int) + c') := hb_X_v hXD (by omega) (by omega) (by omega) (hokC _ (by omega) (by omega))
    have vbeD : hb_v D 4225 = hb_v C 4225 := hb_X_v hXD (by decide) (by decide) (by decide) (hokC _ (by decide) (by decide))
    have lal := hlen D hokD (65 * (r : Int) + c') (by omega) (by omega)
    refine wq_bigProduct (by decide) (by decide) (by decide) (by decide) (by omega) (by omega) (by decide) (by omega) hWD (hokD _ (by omega) (by omega)) (by omega) (fun E hXE hWE hvE hzE => ?_)
    have hokE := hb_ok_one hokD hXE hWE
    refine wq_turnSign (by decide) (by decide) hokE (fun F hXF hokF hvF hzF => ?_)
    have vF : hb_v F 4243 = -(x * hb_v C (65 * (r : Int) + c')) := by rw [hvF, hvE, hvD, valD]
    have bx := lq_big hx0 hx1 (by omega) hal2
    have hbig2 := lq_big2
    have lF : F 1 (4243 : Int).toNat ≤ 130 := hb_len_le (hokF 4243 (by decide) (by decide)) (k := 130) (by
      rw [hb_z_abs (hokF 4243 (by decide) (by decide)), vF]
      omega)
    have lF5 := hlen F hokF 4225 (by decide) (by decide)
    refine wq_bigAdd (by decide) (by decide) (by decide) (by decide) (by decide) (hokF 4243 (by decide) (by decide)) (hokF 4225 (by decide) (by decide)) (by omega) (by omega) (Or.inl rfl) (fun G hXG hWG hvG => ?_)
    have hokG := hb_ok_one hokF hXG hWG
    rw [if_pos rfl] at hvG
    have vbeF : hb_v F 4225 = hb_v C 4225 := by rw [hb_X_v hXF (by decide) (by decide) (by decide) (hokE _ (by decide) (by decide)), hb_X_v hXE (by decide) (by decide) (by decide) (hokD _ (by decide) (by decide)), vbeD]
    have vG : hb_v G 4243 = -(x * hb_v C (65 * (r : Int) + c')) + hb_v C 4225 := by rw [hvG, vF, vbeF]
    have e25 : G 25 g = A 25 g := by
      rw [hXG.1 25 (by decide), hXF.1 25 (by decide), hXE.1 25 (by decide), hXD.1 25 (by decide), hY.1 25 (by decide) (by decide) (by decide), hZ.1 25 (by decide) (by decide) (by decide) (by decide)]
    refine ⟨⟨by omega, by omega⟩, ?_⟩
    have eg : ((g : Int)).toNat = g := by omega
    rw [eg, e25]
    refine wq_bigSet (by decide) (by decide) (by omega) (fun H hXH hWH hvH hlH => ?_)
    have hokH := hb_ok_one hokG hXH hWH
    have valH : hb_v H (65 * (r : Int) + c') = hb_v C (65 * (r : Int) + c') := by
      rw [hb_X_v hXH (by omega) (by omega) (by omega) (hokG _ (by omega) (by omega)), hb_X_v hXG (by omega) (by omega) (by omega) (hokF _ (by omega) (by omega)), hb_X_v hXF (by omega) (by omega) (by omega) (hokE _ (by omega) (by omega)), hb_X_v hXE (by omega) (by omega) (by omega) (hokD _ (by omega) (by omega)), valD]
    have lalH := hlen H hokH (65 * (r : Int) + c') (by omega) (by omega)
    refine wq_bigProduct (by decide) (by decide) (by decide) (by decide) (by omega) (by omega) (by decide) (by omega) hWH (hokH _ (by omega) (by omega)) (by omega) (fun I hXI hWI hvI hzI => ?_)
    have hokI := hb_ok_one hokH hXI hWI
    have vI4 : hb_v I 4244 = A 25 g * hb_v C (65 * (r : Int) + c') := by rw [hvI, hvH, valH]
    have vI3 : hb_v I 4243 = -(x * hb_v C (65 * (r : Int) + c')) + hb_v C 4225 := by
      rw [hb_X_v hXI (by decide) (by decide) (by decide) (hokH _ (by decide) (by decide)), hb_X_v hXH (by decide) (by decide) (by decide) hWG, vG]
    have bc := lq_big (x := A 25 g) hcm.1 (by omega) (show 0 ≤ hb_v C (65 * (r : Int) + c') by omega) hal2
    have bpos : 0 < A 25 g * hb_v C (65 * (r : Int) + c') := Int.mul_pos (by omega) hal
    have z3 : hb_z I 4243 < 16777216 ^ 130 := by
      rw [hb_z_abs (hokI 4243 (by decide) (by decide)), vI3]
      have : (142936511610880 ^ 65 : Int) ≤ 400000000001 * 142936511610880 ^ 65 := by decide +kernel
      omega
    have z4 : hb_z I 4244 < 16777216 ^ 130 := by
      rw [hb_z_abs (hokI 4244 (by decide) (by decide)), vI4]
      omega
    refine wq_settle (by decide) (by decide) hokI (by rw [vI4]; exact bpos) (Int.lt_of_le_of_lt (Int.ediv_le_self _ (hb_z_nonneg (hb_W_P (hokI 4243 (by decide) (by decide))))) z3) (Int.lt_of_le_of_lt (Int.ediv_le_self _ (hb_z_nonneg (hb_W_P (hokI 4244 (by decide) (by decide))))) z4) (fun K hXK hokK _ _ L hL => ?_)
    have hKL : lq_K 51 K L := by rw [hL]; exact lq_K_s _ _ _ _
    have hZ0 : ms_Z A K := ms_Z_trans (ms_Z_Z hZ) (ms_Z_trans (ms_Z_Y hY) (ms_Z_trans (ms_Z_X hXD) (ms_Z_trans (ms_Z_X hXE) (ms_Z_trans (ms_Z_X hXF) (ms_Z_trans (ms_Z_X hXG) (ms_Z_trans (ms_Z_X hXH) (ms_Z_trans (ms_Z_X hXI) (ms_Z_X hXK))))))))
    have back : ∀ k, 2 < k → K k = C k := fun k hk => by
      rw [hXK.1 k hk, hXI.1 k hk, hXH.1 k hk, hXG.1 k hk, hXF.1 k hk, hXE.1 k hk, hXD.1 k hk]
    have k52 : K 52 = B 52 := by rw [back 52 (by decide), hY.1 52 (by decide) (by decide) (by decide)]
    have k51 : K 51 = A 51 := by rw [back 51 (by decide), hY.1 51 (by decide) (by decide) (by decide), hZ.1 51 (by decide) (by decide) (by decide) (by decide)]
    have k53 : K 53 = A 53 := by rw [back 53 (by decide), hY.1 53 (by decide) (by decide) (by decide), hZ.1 53 (by decide) (by decide) (by decide) (by decide)]
    have k56 : K 56 = A 56 := by rw [back 56 (by decide), hY.1 56 (by decide) (by decide) (by decide), hZ.1 56 (by decide) (by decide) (by decide) (by decide)]
    rw [hz1]
    refine hQ 0 L (Or.inl ⟨rfl, hk.resolve_left c⟩) (ms_Z_trans hZ0 (ms_Z_K (Or.inl rfl) hKL)) (hb_ok_K (by decide) hKL hokK) (fun s => by rw [hKL 52 (by decide), k52]; exact hplB s) (fun s => ?_) (by rw [hKL 53 (by decide), k53]) ⟨by rw [hKL 56 (by decide), k56], fun i hi => by
      rw [hL, lq_s_fun]
      unfold hz_u
      rw [if_neg (by omega), k51]⟩
    rw [hL, lq_s_fun]
    unfold hz_u
    split
    · exact Or.inr rfl
    · rw [k51]
      exact hth s
theorem wl_solve {z : Nat → Int} {A : Nat → Nat → Int} {Q : (Nat → Int) → (Nat → Nat → Int) → Prop} (hI : mi_I z A) (hQ : ∀ t B, mi_I (lp_U z 3 t) B → md_Z A B → ((t = 0 ∧ z 34 = 1) ∨ (t = 1 ∧ z 34 = 0)) → Q (lp_U z 3 t) B) : wp_solve z A Q := by
  obtain ⟨g, hg, hgz, hgt⟩ := mi_g hI
  refine wl_solveQ hI.2.2.1 (fun hk => ⟨g, hg, hgz, by have := (hI.2.2.2.2.2.1 hk).1; rw [hgt] at this; exact this⟩) hI.2.2.2.2.2.2.1 hI.2.2.2.2.2.2.2.1 hI.2.2.2.2.2.2.2.2.1 (fun t B ht hZ hokB h52 h51 _ _ => hQ t B ?_ (md_of hZ) ht)
  exact mi_keep (mi_3 hI t) (fun _ _ _ => rfl) (mi_3 hI t).2.2.2.2.2.2.2.2.2 hZ hokB h52 h51
section CI
variable {L : List Nat} {K : Nat → cw_K} {r r' : Nat → Nat → Nat} {z A : Nat → Nat → Int} {w : Nat → Nat × Nat} {ρ : Nat → Nat} {S : Nat → Prop} {h g R : Nat} {σ : Nat → Nat → Int}
theorem wl_c11_solve (I : ci_I L K r w ρ z A h) {Q : (Nat → Nat → Int) → (Nat → Nat → Int) → Prop} {X : String → (Nat → Nat → Int) → (Nat → Nat → Int) → Prop} (hQ : z h 14 = 1 → ∀ z' A' : Nat → Nat → Int, ci_I L K r w ρ z' A' h → z' (r (r h 0) 2) 1 = z (r (r h 0) 2) 1 → ci_D ρ h z A z' A' → Q z' A') (hX : z h 14 = 0 → X "java/lang/IllegalStateException" z A) : wp_c11_solve L K z r A h Q X := by
  obtain ⟨hdg, h1, h2, h3, h4, h6, h7, h8, h9⟩ := id I.1
  obtain ⟨⟨a1, a2⟩, -, ⟨c1, c2, c3⟩, -, ⟨v1, v2⟩, -, -, ⟨i1, i2, i3⟩, -, -, ⟨l1, l2, l3⟩, -⟩ := id I.2.1
  have pg := (ci_g I).2
  have g1 := I.2.2.2.2.1
  obtain ⟨p1, p2⟩ := i3 0 (by omega)
  obtain ⟨q1, q2⟩ := i3 1 (by omega)
  obtain ⟨R1, R2⟩ := l3 0 (by omega)
  refine ⟨a1, by omega, fun c => ?_, fun c => hX c⟩
  have hg : z h 14 = 1 := by omega
  have hF := I.2.2.2.2.2.1 hg
  refine ⟨v1, wq_c8_work (S := fun q => q = 2) I.2.2.1 hdg h1 h2 h7 h8 v1 v2 hF (by show ¬ ρ (r h 13) = 2; omega) (fun z1 A1 J1 F1 hI1 => ⟨i1, by omega, by omega, ?_⟩)⟩
  obtain ⟨m9, a9, b9, c9, hI1⟩ := hI1
  show wp_c8_handOver L K z1 r A1 (r h 3) (cw_g K (r h 6) 0) (cw_g K (r h 6) 1) _
  refine wq_c8_handOver (S := fun q => q = 7 ∨ q = 8) J1 h1 h3 h8 v1 hI1 p1 q1 (Or.inl p2) (Or.inr q2) (fun e => by rw [e] at p2; omega) (by rw [v2]; omega) (fun z2 A2 J2 F2 M2 N2 => ⟨l1, by omega, ?_⟩)
  have hI2 := cz_I_keepF h1 h8 v1 hI1 F2 (by rw [v2]; omega)
  refine wq_c8_top (S := fun q => q = 2) J2 h1 h8 v1 v2 hI2 (fun z3 A3 J3 F3 lt3 => ⟨by omega, p1, (h3 _ p1).1.1, by have := (h3 _ p1).1.2.1; show (0 : Int) ≤ 0 ∧ (0 : Int) < (cw_n K (r (cw_g K (r h 6) 0) 0) : Int); omega, hF.1, R1, ?_⟩)
  show wp_c4_put L K z3 r A3 (cw_g K (r h 9) 0) (r (r h 3) 10) (cw_g K (r (cw_g K (r h 6) 0) 0) 0) (z3 (r h 13) 2) _
  obtain ⟨⟨y1, y2, y3, y4⟩, -⟩ := h3 _ p1
  obtain ⟨⟨x1, x2, x3, x4⟩, -⟩ := h3 _ q1
  obtain ⟨-, -, -, -, -, ⟨t1, t2, t3, t4⟩, -, -⟩ := h8 _ v1
  have lp := (J3.1.2 _ (y4 0 (by omega)).1).1
  have lq := (y4 0 (by omega)).2.1
  refine wq_c4_put (S := fun q => q = 12) J3 h1 h4 R1 R2 t1 (y4 0 (by omega)).1 (by rw [t4, v2, R2]; decide) (by rw [(y4 0 (by omega)).2.2.2, p2, R2]; decide) lt3 (by omega) (fun z4 A4 J4 F4 kn => ?_)
  have F : cF ρ (fun q => q = 2 ∨ q = 7 ∨ q = 8 ∨ q = 12) z A z4 A4 := cF_trans (cF_trans (cF_trans (cF_mono F1 (fun q hq => Or.inl hq)) (cF_mono F2 (fun q hq => by omega))) (cF_mono F3 (fun q hq => Or.inl hq))) (cF_mono F4 (fun q hq => by omega))
  have F34 : cF ρ (fun q => q = 2 ∨ q = 12) z2 A2 z4 A4 := cF_trans (cF_mono F3 (fun q hq => Or.inl hq)) (cF_mono F4 (fun q hq => Or.inr hq))
  refine hQ hg z4 A4 (ci_keep I F J4 (by show ¬ (_ ∨ _ ∨ _ ∨ _); omega) (fun q => by omega) (fun q => by omega) (fun i hi q => by omega) (fun i hi q => by omega) (fun i hi q => ?_) (fun i hi q => ?_)) (by rw [(F _ (by rw [c2]; omega)).1]) ⟨cF_mono F (fun q hq => by omega), fun y _ => by rw [(F h (by rw [a2]; omega)).1]⟩
  · have : i = 0 ∨ i = 1 := by omega
    rcases this with rfl | rfl
    · intro x hx
      rw [(cF_big h1 F34 (y4 x hx).1 (by rw [(y4 x hx).2.2.2, p2]; omega)).1]
      exact M2 x hx
    · intro x hx
      rw [(cF_big h1 F34 (x4 x hx).1 (by rw [(x4 x hx).2.2.2, q2]; omega)).1]
      exact N2 x hx
  · have : i = 0 := by omega
    subst this
    exact ⟨Or.inr kn, fun _ => hg⟩
end CI
