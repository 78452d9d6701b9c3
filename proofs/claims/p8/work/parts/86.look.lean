noncomputable def la_plans (g : Int) (σ : Nat → Nat → Int) (p x : Int) : Prop := ((g = 1 ∧ (p = 1 ∨ p = 2)) ∧ x = sp_pl σ (p - 1).toNat) ∨ (¬ (g = 1 ∧ (p = 1 ∨ p = 2)) ∧ x = -1)
theorem la_plans_u {g : Int} {σ : Nat → Nat → Int} {y x x' : Int} (h : la_plans g σ y x) (h' : la_plans g σ y x') : x = x' := by
  rcases h with ⟨a, b⟩ | ⟨a, b⟩ <;> rcases h' with ⟨a', b'⟩ | ⟨a', b'⟩
  · rw [b, b']
  · exact absurd a a'
  · exact absurd a' a
  · rw [b, b']
section CI
variable {L : List Nat} {K : Nat → cw_K} {r : Nat → Nat → Nat} {z A : Nat → Nat → Int} {w : Nat → Nat × Nat} {ρ : Nat → Nat} {h : Nat} {σ : Nat → Nat → Int}
theorem wl_c11_isPlaying {p : Int} (I : ci_I L K r w ρ z A h) (hp : hz_rI p) {Q : Int → Prop} (h1 : (p = 1 ∨ p = 2) → z h 14 = 1 → Q 1) (h0 : ¬ (z h 14 = 1 ∧ (p = 1 ∨ p = 2)) → Q 0) : wp_c11_isPlaying L K z r A h p Q := by
  have g1 := I.2.2.2.2.1
  refine ⟨I.2.1.1.1, by omega, fun c => ⟨by omega, h0 (by omega)⟩, fun c => wq_c11_isPlayer hp (fun hp1 => ⟨by decide, fun c9 => absurd c9 (by decide), fun _ => ⟨by omega, h1 hp1 (by omega)⟩⟩) (fun np => ⟨by decide, fun _ => ⟨by omega, h0 (fun q => np q.2)⟩, fun c9 => absurd rfl c9⟩)⟩
theorem wl_c11_plans {y : Int} (I : ci_I L K r w ρ z A h) (hy : hz_rI y) (G : z h 14 = 1 → sg_R K r (r h 13) σ z A) {Q : Int → Prop} (hQ : ∀ x, la_plans (z h 14) σ y x → Q x) : wp_c11_plans L K z r A h y Q := by
  refine ⟨I.2.1.1.1, wl_c11_isPlaying I hy (fun hp hg => ⟨by decide, fun c => absurd c (by decide), fun _ => wq_c11_sideOf I hp hg (fun hs => ⟨hs.1, ?_⟩)⟩) (fun no => ⟨by decide, fun _ => hQ (-1) (Or.inr ⟨no, rfl⟩), fun c => absurd rfl c⟩)⟩
  obtain ⟨e1, e2⟩ := (G hg).2 (y - 1).toNat (by omega)
  obtain ⟨f1, f2, f3, f4⟩ := hs
  refine wq_c7_countPlansE f1 I.1.2.2.2.2.2.2.1 f2 (fun i hi => (f4 i hi).1) (fun _ => hQ _ (Or.inl ⟨⟨hg, hp⟩, ?_⟩))
  unfold sp_pl
  rw [e1]
  exact cPm_congr (fun i hi => (e2 i (by omega)).2.1)
end CI
section MI
variable {z : Nat → Int} {A : Nat → Nat → Int} {σ : Nat → Nat → Int}
theorem wl_isPlayer {p : Int} {Q : Int → Prop} (hI : mi_I z A) (hp : hz_rI p) (h1 : z 34 = 1 → (p = 1 ∨ p = 2) → Q 1) (h0 : ¬ (z 34 = 1 ∧ (p = 1 ∨ p = 2)) → Q 0) : wp_isPlayer z A p Q := by
  have hk := hI.2.2.1
  exact ⟨mi_k hI, fun c => ⟨Or.inl rfl, h0 (by omega)⟩, fun c => ⟨hp, fun d => ⟨Or.inr rfl, h1 (by omega) (Or.inl d)⟩, fun d => ⟨hp, fun e => ⟨Or.inl rfl, h0 (by omega)⟩, fun e => ⟨Or.inr rfl, h1 (by omega) (Or.inr e)⟩⟩⟩⟩
/-- as of z, so when 'nothing thrown' is noted -/
theorem mg_G3 (G : z 34 = 1 → mg_R (z 32).toNat A σ) : lp_U z 3 0 34 = 1 → mg_R (lp_U z 3 0 32).toNat A σ := by
  have e4 : lp_U z 3 0 34 = z 34 := lp_U_other (by decide)
  have e2 : lp_U z 3 0 32 = z 32 := lp_U_other (by decide)
  rw [e4, e2]
  exact G
theorem mg_pl {g p : Nat} (hp : p < 2) (h : mg_R g A σ) : lq_pp A g p (A 26 (2 * g + p)).toNat = sp_pl σ p := by
  have n1 := h.2.1 p hp
  obtain ⟨b, e⟩ := h.2.2 p hp
  have : ∀ m : Nat, (m : Int) ≤ σ 1 p → lq_pp A g p m = cPm (σ (12 + p)) m := by
    intro m
    induction m with
    | zero => intro _; rfl
    | succ m ih =>
      intro hm
      simp only [lq_pp, cPm]
      rw [ih (by omega), (e m (by omega)).2.1]
  unfold sp_pl
  rw [n1]
  exact this _ (by omega)
theorem wl_plans {p : Int} {Q : Int → (Nat → Int) → Prop} (hI : mi_I z A) (hp : hz_rI p) (G : z 34 = 1 → mg_R (z 32).toNat A σ) (hQ : ∀ r t, mi_I (lp_U z 3 t) A → la_plans (z 34) σ p r → Q r (lp_U z 3 t)) : wp_plans z A p Q := by
  intro z1 hz1
  subst hz1
  have hI1 := mi_3 hI 0
  have e4 : lp_U z 3 0 34 = z 34 := lp_U_other (by decide)
  have e2 : lp_U z 3 0 32 = z 32 := lp_U_other (by decide)
  refine wl_isPlayer hI1 hp (fun c d => ⟨by decide, fun q => absurd q (by decide), fun _ => ?_⟩) (fun n => ⟨by decide, fun _ => hQ (-1) 0 hI1 (Or.inr ⟨by rw [e4] at n; exact n, rfl⟩), fun q => absurd rfl q⟩)
  obtain ⟨g, hg, hgz, hgt⟩ := mi_g hI1
  have hS := mi_S hI1 c d hgt
  have G1 := mg_pl (p := (p - 1).toNat) (by omega) (mg_G3 G c)
  rw [hgt] at G1
  have ep : p - 1 = (((p - 1).toNat : Nat) : Int) := by omega
  have res : la_plans (z 34) σ p (lq_pp A g (p - 1).toNat (A 26 (2 * g + (p - 1).toNat)).toNat) := Or.inl ⟨⟨by omega, d⟩, G1⟩
  rw [hgz, ep]
  exact wq_plansOf hg (by omega) hS.1 (hQ _ 0 hI1 res)
end MI
section CI
variable {L : List Nat} {K : Nat → cw_K} {r r' : Nat → Nat → Nat} {z A : Nat → Nat → Int} {w : Nat → Nat × Nat} {ρ : Nat → Nat} {S : Nat → Prop} {h g R : Nat} {σ : Nat → Nat → Int}
end CI
