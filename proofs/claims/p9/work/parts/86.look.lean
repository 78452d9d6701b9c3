noncomputable def la_is (g : Int) (σ : Nat → Nat → Int) (p s : Int) : Prop := g = 1 ∧ (p = 1 ∨ p = 2) ∧ 0 ≤ s ∧ s < σ 1 (p - 1).toNat
/-- tell: 1 no such move, 2 no such chance -/
noncomputable def la_mv (g : Int) (σ : Nat → Nat → Int) (p s m : Int) : Prop := la_is g σ p s ∧ 0 ≤ m ∧ m < σ (12 + (p - 1).toNat) s.toNat
noncomputable def la_tell (g : Int) (σ : Nat → Nat → Int) (p s m a b x : Int) : Prop := (¬ la_mv g σ p s m ∧ x = 1) ∨ (la_mv g σ p s m ∧ ¬ (1 ≤ b ∧ b ≤ 9999 ∧ 0 ≤ a ∧ a ≤ b) ∧ x = 2) ∨ (la_mv g σ p s m ∧ (1 ≤ b ∧ b ≤ 9999 ∧ 0 ≤ a ∧ a ≤ b) ∧ x = 0)
theorem la_tell_u {g : Int} {σ : Nat → Nat → Int} {p s m a b x x' : Int} (h : la_tell g σ p s m a b x) (h' : la_tell g σ p s m a b x') : x = x' := by
  rcases h with ⟨a1, b1⟩ | ⟨a1, c1, b1⟩ | ⟨a1, c1, b1⟩ <;> rcases h' with ⟨a2, b2⟩ | ⟨a2, c2, b2⟩ | ⟨a2, c2, b2⟩
  · rw [b1, b2]
  · exact absurd a2 a1
  · exact absurd a2 a1
  · exact absurd a1 a2
  · rw [b1, b2]
  · exact absurd c2 c1
  · exact absurd a1 a2
  · exact absurd c1 c2
  · rw [b1, b2]
section CI
variable {L : List Nat} {K : Nat → cw_K} {r : Nat → Nat → Nat} {z A : Nat → Nat → Int} {w : Nat → Nat × Nat} {ρ : Nat → Nat} {h : Nat} {σ : Nat → Nat → Int}
theorem wl_c11_isPlaying {p : Int} (I : ci_I L K r w ρ z A h) (hp : hz_rI p) {Q : Int → Prop} (h1 : (p = 1 ∨ p = 2) → z h 14 = 1 → Q 1) (h0 : ¬ (z h 14 = 1 ∧ (p = 1 ∨ p = 2)) → Q 0) : wp_c11_isPlaying L K z r A h p Q := by
  have g1 := I.2.2.2.2.1
  refine ⟨I.2.1.1.1, by omega, fun c => ⟨by omega, h0 (by omega)⟩, fun c => wq_c11_isPlayer hp (fun hp1 => ⟨by decide, fun c9 => absurd c9 (by decide), fun _ => ⟨by omega, h1 hp1 (by omega)⟩⟩) (fun np => ⟨by decide, fun _ => ⟨by omega, h0 (fun q => np q.2)⟩, fun c9 => absurd rfl c9⟩)⟩
theorem wl_c7_hasSet {s : Nat} {i : Int} (hs : cw_O L K 7 s) (hz : 0 ≤ z s 0 ∧ z s 0 ≤ 10) (hi : hz_rI i) {Q : Int → Prop} (h1 : (0 ≤ i ∧ i < z s 0) → Q 1) (h0 : ¬ (0 ≤ i ∧ i < z s 0) → Q 0) : wp_c7_hasSet L K z r A s i Q := by
  refine ⟨hi, fun c => ⟨by omega, h0 (by omega)⟩, fun c => ⟨hs, hi, by omega, fun c2 => ⟨by omega, h0 (by omega)⟩, fun c2 => ⟨by omega, h1 (by omega)⟩⟩⟩
theorem wl_c7_hasMove {s : Nat} {i j : Int} (h7 : cg_7 L K r w ρ) (F : cs_F L K r z A s) (hi : hz_rI i) (hj : hz_rI j) {Q : Int → Prop} (h1 : (0 ≤ i ∧ i < z s 0) → (0 ≤ j ∧ j < A (r s 2) i.toNat) → j < 4 → Q 1) (h0 : ¬ ((0 ≤ i ∧ i < z s 0) ∧ (0 ≤ j ∧ j < A (r s 2) i.toNat)) → Q 0) : wp_c7_hasMove L K z r A s i j Q := by
  obtain ⟨f1, f2, f3, f4⟩ := F
  obtain ⟨-, ⟨b1, b2, -, -⟩, -, -, -, -⟩ := h7 s f1
  have no : ¬ ((0 ≤ i ∧ i < z s 0) ∧ (0 ≤ j ∧ j < A (r s 2) i.toNat)) → wp_c7_hasMove_26 L K z r A Q := fun n => ⟨Or.inl rfl, h0 n⟩
  refine ⟨f1, wl_c7_hasSet f1 f2 hi (fun hi2 => ⟨by decide, fun q => absurd q (by decide), fun _ => ⟨hj, fun c => no (by omega), fun c => ⟨b1, by omega, hj, ?_, fun c2 => no (by omega), fun c2 => ⟨Or.inr rfl, ?_⟩⟩⟩⟩) (fun n => ⟨by decide, fun _ => no (fun q => n q.1), fun q => absurd rfl q⟩)⟩
  · have := (f4 i.toNat (by omega)).1
    omega
  · have := (f4 i.toNat (by omega)).1
    exact h1 hi2 (by omega) (by omega)
theorem wl_c11_tell {y1 y2 y3 y4 y5 : Int} (I : ci_I L K r w ρ z A h) (e1 : hz_rI y1) (e2 : hz_rI y2) (e3 : hz_rI y3) (e4 : hz_rI y4) (e5 : hz_rI y5) (G : z h 14 = 1 → sg_R K r (r h 13) σ z A) {Q : (Nat → Nat → Int) → Prop} {X : String → (Nat → Nat → Int) → Prop} (hQ : ∀ A' : Nat → Nat → Int, ci_I L K r w ρ z A' h → ci_D ρ h z A z A' → la_tell (z h 14) σ y1 y2 y3 y4 y5 0 → Q A') (hX1 : la_tell (z h 14) σ y1 y2 y3 y4 y5 1 → X "java/lang/IndexOutOfBoundsException" A) (hX2 : la_tell (z h 14) σ y1 y2 y3 y4 y5 2 → X "java/lang/IllegalArgumentException" A) : wp_c11_tell L K z r A h y1 y2 y3 y4 y5 Q X := by
  obtain ⟨hdg, h1, h2, h3, h4, h6, h7, h8, h9⟩ := id I.1
  obtain ⟨⟨a1, a2⟩, -, -, -, -, ⟨f1, f2, f3⟩, -⟩ := id I.2.1
  have pg := (ci_g I).2
  have no : ¬ la_mv (z h 14) σ y1 y2 y3 → wp_c11_tell_21 L K z r A Q X := fun n => hX1 (Or.inl ⟨n, rfl⟩)
  refine ⟨a1, wl_c11_isPlaying I e1 (fun hp hg => ⟨by decide, fun q => absurd q (by decide), fun _ => wq_c11_sideOf I hp hg (fun F => ⟨F.1, ?_⟩)⟩) (fun n => ⟨by decide, fun _ => no (fun q => n ⟨q.1.1, q.1.2.1⟩), fun q => absurd rfl q⟩)⟩
  obtain ⟨s1, s2⟩ := (G hg).2 (y1 - 1).toNat (by omega)
  have s10 := F.2.1
  refine wl_c7_hasMove h7 F e2 e3 (fun hi hj hj4 => ⟨by decide, fun _ => ?_, fun q => absurd q (by decide)⟩) (fun n => ⟨by decide, fun q => absurd rfl q, fun _ => no (fun q => n ?_)⟩)
  · have v2 := (s2 y2.toNat (by omega)).2.1
    have yes : la_mv (z h 14) σ y1 y2 y3 := ⟨⟨hg, hp, by omega, by omega⟩, by omega, by omega⟩
    have no2 : ¬ (1 ≤ y5 ∧ y5 ≤ 9999 ∧ 0 ≤ y4 ∧ y4 ≤ y5) → wp_c11_tell_57 L K z r A Q X := fun n => hX2 (Or.inr (Or.inl ⟨yes, n, rfl⟩))
    refine ⟨e5, fun c => no2 (by omega), fun g1 => ⟨e5, fun c => no2 (by omega), fun g2 => ⟨e4, fun c => no2 (by omega), fun g3 => ⟨e4, e5, fun g4 => ?_, fun c => no2 (by omega)⟩⟩⟩⟩
    obtain ⟨g5, g6⟩ := f3 (y1 - 1).toNat (by omega)
    have W := I.2.2.2.2.2.2.1 (y1 - 1).toNat (by omega)
    refine ⟨f1, by omega, g5, wq_c9_putChance (S := fun q => q = 3 + (y1 - 1).toNat) I.2.2.1 hdg h9 g6 W (by omega) (by omega) (by omega) (by omega) (fun A' J' F' W' => hQ A' (ci_keep I F' J' (by show ¬ ρ (r h 13) = _; omega) (fun q => by omega) (fun q => by omega) (fun i hi q => ?_) (fun i hi q => by omega) (fun i hi q => by omega) (fun i hi q => by omega)) ⟨cF_mono F' (fun q hq => by omega), fun _ _ => rfl⟩ (Or.inr (Or.inr ⟨yes, by omega, rfl⟩)))⟩
    have : i = (y1 - 1).toNat := by omega
    rw [this]
    exact W'
  · obtain ⟨⟨q1, q2, q3, q4⟩, q5, q6⟩ := q
    have v2 := (s2 y2.toNat (by omega)).2.1
    exact ⟨⟨q3, by rw [s1]; exact q4⟩, q5, by rw [v2]; exact q6⟩
end CI
section MI
variable {z : Nat → Int} {A : Nat → Nat → Int} {σ : Nat → Nat → Int}
theorem wl_isPlayer {p : Int} {Q : Int → Prop} (hI : mi_I z A) (hp : hz_rI p) (h1 : z 34 = 1 → (p = 1 ∨ p = 2) → Q 1) (h0 : ¬ (z 34 = 1 ∧ (p = 1 ∨ p = 2)) → Q 0) : wp_isPlayer z A p Q := by
  have hk := hI.2.2.1
  exact ⟨mi_k hI, fun c => ⟨Or.inl rfl, h0 (by omega)⟩, fun c => ⟨hp, fun d => ⟨Or.inr rfl, h1 (by omega) (Or.inl d)⟩, fun d => ⟨hp, fun e => ⟨Or.inl rfl, h0 (by omega)⟩, fun e => ⟨Or.inr rfl, h1 (by omega) (Or.inr e)⟩⟩⟩⟩
theorem wl_isSet {p s : Int} {Q : Int → Prop} (hI : mi_I z A) (hp : hz_rI p) (hs : hz_rI s) (G : z 34 = 1 → mg_R (z 32).toNat A σ) (h1 : la_is (z 34) σ p s → Q 1) (h0 : ¬ la_is (z 34) σ p s → Q 0) : wp_isSet z A p s Q := by
  refine wl_isPlayer hI hp (fun h2 h3 => ⟨by decide, fun q => absurd q (by decide), fun _ => ⟨hs, fun d => ⟨Or.inl rfl, h0 (fun q => by have := q.2.2.1; omega)⟩, fun d => ?_⟩⟩) (fun n => ⟨by decide, fun _ => ⟨Or.inl rfl, h0 (fun q => n ⟨q.1, q.2.1⟩)⟩, fun q => absurd rfl q⟩)
  have hS := (mi_S hI h2 h3 rfl).1
  have n1 := (G h2).2.1 (p - 1).toNat (by omega)
  exact wq_setsOf hI h3 ⟨hs, ⟨by omega, by omega⟩, fun e => ⟨Or.inl rfl, h0 (fun q => by have := q.2.2.2; omega)⟩, fun e => ⟨Or.inr rfl, h1 ⟨h2, h3, by omega, by omega⟩⟩⟩
theorem wl_tell {p s mv a b : Int} {Q : (Nat → Int) → (Nat → Nat → Int) → Prop} (hI : mi_I z A) (hp : hz_rI p) (hs : hz_rI s) (hm : hz_rI mv) (ha : hz_rI a) (hb : hz_rI b) (G : z 34 = 1 → mg_R (z 32).toNat A σ) (hQ : ∀ t B, mi_I (lp_U z 3 t) B → md_Z A B → la_tell (z 34) σ p s mv a b t → Q (lp_U z 3 t) B) : wp_tell z A p s mv a b Q := by
  have no : ∀ t : Int, 1 ≤ t → t ≤ 2 → la_tell (z 34) σ p s mv a b t → wp_tell_77 z A p s mv a b t Q := by
    intro t t1 t2 ht z1 hz1
    subst hz1
    rw [lp_U_same]
    exact ⟨⟨by omega, by omega⟩, fun _ => hQ t A (mi_3 hI t) (md_refl A) ht, fun c => by omega⟩
  have no1 : ¬ la_mv (z 34) σ p s mv → wp_tell_33 z A p s mv a b Q := fun n => ⟨⟨by decide, by decide⟩, fun c => absurd rfl c, fun _ => no 1 (by decide) (by decide) (Or.inl ⟨n, rfl⟩)⟩
  refine wl_isSet (σ := σ) hI hp hs G (fun yes => ⟨by decide, fun q => absurd q (by decide), fun _ => ⟨hm, fun c => no1 (fun q => by have := q.2.1; omega), fun d => ?_⟩⟩) (fun n => ⟨by decide, fun _ => no1 (fun q => n q.1), fun q => absurd rfl q⟩)
  obtain ⟨h2, h3, h4, h5⟩ := id yes
  obtain ⟨g, hg, hgz, hgt⟩ := mi_g hI
  have hS := mi_S hI h2 h3 hgt
  have G1 := G h2
  have n1 := G1.2.1 (p - 1).toNat (by omega)
  have v2 := ((G1.2.2 (p - 1).toNat (by omega)).2 s.toNat (by omega)).2.1
  rw [hgt] at n1 v2
  have hS1 := hS.1
  have hS2 := hS.2 s.toNat (by omega)
  refine wq_movesOf hI (by omega) (by omega) ?_
  have ei : 20 * (z 32).toNat + (10 * (p - 1) + s).toNat = 20 * g + (10 * (p - 1).toNat + s.toNat) := by omega
  rw [ei]
  refine ⟨hm, ⟨by omega, by omega⟩, fun e => no1 (fun q => by have := q.2.2; omega), fun e => ?_⟩
  have ym : la_mv (z 34) σ p s mv := ⟨yes, by omega, by omega⟩
  have no2 : ¬ (1 ≤ b ∧ b ≤ 9999 ∧ 0 ≤ a ∧ a ≤ b) → wp_tell_72 z A p s mv a b Q := fun n => no 2 (by decide) (by decide) (Or.inr (Or.inl ⟨ym, n, rfl⟩))
  refine ⟨⟨by decide, by decide⟩, fun _ => ⟨hb, fun _ => no2 (by omega), fun b1 => ⟨hb, fun _ => no2 (by omega), fun b2 => ⟨ha, fun _ => no2 (by omega), fun a1 => ⟨ha, hb, fun ab z1 hz1 => ?_, fun _ => no2 (by omega)⟩⟩⟩⟩, fun c0 => absurd c0 (by decide)⟩
  subst hz1
  rw [lp_U_same]
  refine ⟨⟨by decide, by decide⟩, fun c0 => absurd rfl c0, fun _ x hx => ⟨⟨by omega, by omega⟩, fun A4 hA4 => ⟨⟨by omega, by omega⟩, fun A5 hA5 => hQ 0 A5 ?_ (fun k k2 k49 => by rw [hA5, hb_s_other (by omega), hA4, hb_s_other (by omega)]) (Or.inr (Or.inr ⟨ym, by omega, rfl⟩))⟩⟩⟩
  have hI1 := mi_3 hI 0
  obtain ⟨a1', a2, a3, a4, a5, a6, a7, a8, a9, a10⟩ := hI1
  have e : ∀ k, k ≠ 49 → k ≠ 50 → A5 k = A k := fun k k1 k2 => by rw [hA5, hb_s_other k2, hA4, hb_s_other k1]
  have ep : ∀ g p n, lq_pp A5 g p n = lq_pp A g p n := fun g p n => by
    induction n with
    | zero => rfl
    | succ n ih => simp only [lq_pp]; rw [ih, e 28 (by decide) (by decide)]
  unfold mi_I
  rw [e 4 (by decide) (by decide), e 52 (by decide) (by decide), e 51 (by decide) (by decide)]
  refine ⟨a1', a2, a3, a4, a5, fun ck => ?_, (hb_arr (e 0 (by decide) (by decide)) (e 1 (by decide) (by decide)) (e 2 (by decide) (by decide))).1 a7, a8, a9, a10⟩
  obtain ⟨b1', b2', b3'⟩ := a6 ck
  have hW : mg_W A5 := by
    intro i hi
    have h49 : A5 49 i = if i = x.toNat then a else A 49 i := by
      rw [hA5, hb_s_other (by decide), hA4, lq_s_fun]
      rfl
    have h50 : A5 50 i = if i = x.toNat then b else A 50 i := by
      rw [hA5, lq_s_fun, hA4, hb_s_other (by decide)]
      rfl
    rw [h49, h50]
    split
    · exact ⟨⟨by omega, by omega⟩, by omega, by omega⟩
    · exact b3' i hi
  refine ⟨?_, ?_, hW⟩
  · unfold mg_G mg_E mg_S at *
    rw [e 14 (by decide) (by decide), e 19 (by decide) (by decide), e 20 (by decide) (by decide), e 21 (by decide) (by decide), e 22 (by decide) (by decide), e 23 (by decide) (by decide), e 25 (by decide) (by decide), e 26 (by decide) (by decide), e 28 (by decide) (by decide), ep, ep]
    exact b1'
  · unfold mg_D at *
    rw [e 14 (by decide) (by decide), e 20 (by decide) (by decide), e 21 (by decide) (by decide), e 22 (by decide) (by decide)]
    exact b2'
end MI
section CI
variable {L : List Nat} {K : Nat → cw_K} {r r' : Nat → Nat → Nat} {z A : Nat → Nat → Int} {w : Nat → Nat × Nat} {ρ : Nat → Nat} {S : Nat → Prop} {h g R : Nat} {σ : Nat → Nat → Int}
end CI
