section CN
variable {L : List Nat} {K : Nat → cw_K} {r : Nat → Nat → Nat} {z A : Nat → Nat → Int} {w : Nat → Nat × Nat} {ρ : Nat → Nat} {z0 A0 : Nat → Nat → Int} {R : Nat} {P : Nat → Int → Prop} {O : Nat → Nat → Prop} {E : Int}
/-- what a reader's objects are -/
noncomputable def cq_X (L : List Nat) (K : Nat → cw_K) (r : Nat → Nat → Nat) (w : Nat → Nat × Nat) (ρ : Nat → Nat) (R : Nat) : Prop := cw_O L K 5 R ∧ cw_O L K 10 (r R 2) ∧ ρ (r R 2) = ρ R ∧ cw_O L K 2 (r R 3) ∧ cg_A L K r w ρ 3 2000 R 4 ∧ cg_A L K r w ρ 1 400 R 9 ∧ cg_A L K r w ρ 1 400 R 10 ∧ cg_A L K r w ρ 0 400 R 11 ∧ cg_A L K r w ρ 0 400 R 12 ∧ (∀ a, cw_O L K 0 a → w (r a 0) = (a, 0)) ∧ cg_2 L K r w ρ ∧ cg_7 L K r w ρ
/-- where it writes -/
noncomputable def cq_r (r : Nat → Nat → Nat) (ρ : Nat → Nat) (R : Nat) (q : Nat) : Prop := q = ρ R ∨ q = ρ (r R 3)
/-- a deed of a side: of a set that is there, and either pending or one of the set's moves -/
noncomputable def cq_d (r : Nat → Nat → Nat) (z A : Nat → Nat → Int) (s : Nat) (P : Int → Prop) (d : Int) : Prop := d = -1 ∨ (0 ≤ d ∧ d / 512 < z s 0 ∧ (P d ∨ d % 512 < A (r s 2) (d / 512).toNat))
/-- a side that is being built; O: sets whose first node is not over -/
noncomputable def cq_B (r : Nat → Nat → Nat) (z A : Nat → Nat → Int) (s : Nat) (P : Int → Prop) (O : Nat → Prop) : Prop := (0 ≤ z s 0 ∧ z s 0 ≤ 10) ∧ ∀ i : Nat, (i : Int) < z s 0 → (0 ≤ A (r s 2) i ∧ A (r s 2) i ≤ 4) ∧ (A (r s 2) i = 0 → O i) ∧ (0 ≤ A (r s 3) i ∧ A (r s 3) i ≤ (i : Int)) ∧ A (r s 4) i < (i : Int) * 512 ∧ cq_d r z A s P (A (r s 4) i)
/-- the ends so far -/
noncomputable def cq_e (K : Nat → cw_K) (r : Nat → Nat → Nat) (z A : Nat → Nat → Int) (R : Nat) (P : Nat → Int → Prop) (E : Int) : Prop := ∀ j : Nat, (j : Int) < E → (0 ≤ A (r R 10) j ∧ ((A (r R 9) j).natAbs : Int) ≤ 9999 * A (r R 10) j) ∧ cq_d r z A (cw_g K (r (r R 3) 1) 0) (P 0) (A (r R 11) j) ∧ cq_d r z A (cw_g K (r (r R 3) 1) 1) (P 1) (A (r R 12) j)
noncomputable def cq_0 (K : Nat → cw_K) (r : Nat → Nat → Nat) (A : Nat → Nat → Int) (R : Nat) : Prop := ∀ i j, i < 20 → j < 20 → A (cw_g K (r (r R 3) 3) i) j = 0
/-- a game that is being built -/
noncomputable def cq_D (L : List Nat) (K : Nat → cw_K) (r : Nat → Nat → Nat) (ρ : Nat → Nat) (R : Nat) (z0 A0 : Nat → Nat → Int) (P : Nat → Int → Prop) (O : Nat → Nat → Prop) (E : Int) (z A : Nat → Nat → Int) : Prop := cF ρ (cq_r r ρ R) z0 A0 z A ∧ cJ L K r z A ∧ (∀ t, t < 2 → cq_B r z A (cw_g K (r (r R 3) 1) t) (P t) (O t)) ∧ cq_e K r z A R P E ∧ cq_0 K r A R
/-- its counts -/
noncomputable def cq_n (r : Nat → Nat → Nat) (A : Nat → Nat → Int) (R : Nat) (E k : Int) : Prop := A (r (r R 3) 0) 1 = E ∧ 0 ≤ E ∧ 0 ≤ A (r (r R 3) 0) 2 ∧ 0 ≤ A (r (r R 3) 0) 3 ∧ E + A (r (r R 3) 0) 2 + A (r (r R 3) 0) 3 + k ≤ A (r (r R 3) 0) 0 ∧ A (r (r R 3) 0) 0 ≤ 400
/-- sets stay, and a set's moves, once told -/
noncomputable def cq_M (K : Nat → cw_K) (r : Nat → Nat → Nat) (z A z' A' : Nat → Nat → Int) (R : Nat) : Prop := ∀ t, t < 2 → z (cw_g K (r (r R 3) 1) t) 0 ≤ z' (cw_g K (r (r R 3) 1) t) 0 ∧ ∀ i : Nat, (i : Int) < z (cw_g K (r (r R 3) 1) t) 0 → 0 < A (r (cw_g K (r (r R 3) 1) t) 2) i → A' (r (cw_g K (r (r R 3) 1) t) 2) i = A (r (cw_g K (r (r R 3) 1) t) 2) i
/-- refused -/
noncomputable def cq_E (L : List Nat) (K : Nat → cw_K) (r : Nat → Nat → Nat) (ρ : Nat → Nat) (R : Nat) (z0 A0 z A : Nat → Nat → Int) : Prop := cF ρ (cq_r r ρ R) z0 A0 z A ∧ cJ L K r z A ∧ cl_T L K r z A (r R 2) ∧ ¬ z R 1 = 0 ∧ hz_rI (z R 1) ∧ hz_rI (z R 0)
noncomputable def cq_O (O : Nat → Nat → Prop) (t : Nat) (x : Int) : Nat → Nat → Prop := fun t' i => O t' i ∨ (t' = t ∧ (i : Int) = x)
theorem cq_M_refl : cq_M K r z A z A R := fun _ _ => ⟨Int.le_refl _, fun _ _ _ => rfl⟩
theorem cq_M_trans {z1 A1 z2 A2 : Nat → Nat → Int} (h1 : cq_M K r z A z1 A1 R) (h2 : cq_M K r z1 A1 z2 A2 R) : cq_M K r z A z2 A2 R := by
  intro t ht
  obtain ⟨a1, a2⟩ := h1 t ht
  obtain ⟨b1, b2⟩ := h2 t ht
  refine ⟨by omega, fun i hi hp => ?_⟩
  have e := a2 i hi hp
  rw [b2 i (by omega) (by rw [e]; exact hp), e]
theorem cq_d_mono {s : Nat} {p p' : Int → Prop} {d : Int} {z' A' : Nat → Nat → Int} (h : cq_d r z A s p d) (hz : z s 0 ≤ z' s 0) (hm : ∀ i : Nat, (i : Int) < z s 0 → 0 < A (r s 2) i → A' (r s 2) i = A (r s 2) i) (hp : ∀ d, p d → p' d) : cq_d r z' A' s p' d := by
  rcases h with h | ⟨h1, h2, h3⟩
  · exact Or.inl h
  · refine Or.inr ⟨h1, by omega, ?_⟩
    rcases h3 with h3 | h3
    · exact Or.inl (hp d h3)
    · refine Or.inr ?_
      rw [hm _ (by omega) (by omega)]
      exact h3
theorem cq_side (X : cq_X L K r w ρ R) {t : Nat} (ht : t < 2) : cw_O L K 7 (cw_g K (r (r R 3) 1) t) ∧ w (cw_g K (r (r R 3) 1) t) = (r (r R 3) 1, t) ∧ ρ (cw_g K (r (r R 3) 1) t) = ρ (r R 3) := by
  obtain ⟨-, -, -, x4, -, -, -, -, -, -, x11, -⟩ := X
  exact (x11 _ x4).2.1.2.2 t ht
theorem cq_ws (X : cq_X L K r w ρ R) {t k : Nat} (ht : t < 2) (hk : k = 1 ∨ k = 2 ∨ k = 3 ∨ k = 4 ∨ k = 6 ∨ k = 7) : cw_A L K 0 (r (cw_g K (r (r R 3) 1) t) k) ∧ cw_n K (r (cw_g K (r (r R 3) 1) t) k) = 10 ∧ w (r (cw_g K (r (r R 3) 1) t) k) = ((cw_g K (r (r R 3) 1) t), k) ∧ ρ (r (cw_g K (r (r R 3) 1) t) k) = ρ (r R 3) := by
  obtain ⟨s1, s2, s3⟩ := cq_side X ht
  obtain ⟨-, -, -, -, -, -, -, -, -, -, -, x12⟩ := X
  obtain ⟨g1, g2, g3, g4, g6, g7⟩ := x12 _ s1
  have e : ∀ j, cg_A L K r w ρ 0 10 (cw_g K (r (r R 3) 1) t) j → cw_A L K 0 (r (cw_g K (r (r R 3) 1) t) j) ∧ cw_n K (r (cw_g K (r (r R 3) 1) t) j) = 10 ∧ w (r (cw_g K (r (r R 3) 1) t) j) = ((cw_g K (r (r R 3) 1) t), j) ∧ ρ (r (cw_g K (r (r R 3) 1) t) j) = ρ (r R 3) := fun j h => ⟨h.1, h.2.1, h.2.2.1, h.2.2.2.trans s3⟩
  rcases hk with rfl | rfl | rfl | rfl | rfl | rfl
  · exact e _ g1
  · exact e _ g2
  · exact e _ g3
  · exact e _ g4
  · exact e _ g6
  · exact e _ g7
theorem cq_wr (X : cq_X L K r w ρ R) {k : Nat} (hk : k = 9 ∨ k = 10 ∨ k = 11 ∨ k = 12) : w (r R k) = (R, k) ∧ ρ (r R k) = ρ R := by
  obtain ⟨-, -, -, -, -, g9, g10, g11, g12, -, -, -⟩ := X
  rcases hk with rfl | rfl | rfl | rfl
  · exact g9.2.2
  · exact g10.2.2
  · exact g11.2.2
  · exact g12.2.2
theorem cq_ww (X : cq_X L K r w ρ R) {i : Nat} (hi : i < 20) : cw_A L K 1 (cw_g K (r (r R 3) 3) i) ∧ cw_n K (cw_g K (r (r R 3) 3) i) = 20 ∧ w (cw_g K (r (r R 3) 3) i) = (r (r R 3) 3, i) ∧ ρ (cw_g K (r (r R 3) 3) i) = ρ (r R 3) := by
  obtain ⟨-, -, -, x4, -, -, -, -, -, -, x11, -⟩ := X
  exact (x11 _ x4).2.2.2.2 i hi
theorem cq_wc (X : cq_X L K r w ρ R) : cw_A L K 0 (r (r R 3) 0) ∧ cw_n K (r (r R 3) 0) = 4 ∧ w (r (r R 3) 0) = ((r R 3), 0) ∧ ρ (r (r R 3) 0) = ρ (r R 3) := by
  obtain ⟨-, -, -, x4, -, -, -, -, -, -, x11, -⟩ := X
  exact (x11 _ x4).1
theorem cq_o3 (X : cq_X L K r w ρ R) : (∀ a ci, cw_O L K ci a → a ≠ r (r R 3) 3) ∧ (r R 3) ≠ R ∧ (r R 2) ≠ R ∧ (r R 2) ≠ (r R 3) ∧ ∀ t, t < 2 → (cw_g K (r (r R 3) 1) t) ≠ R ∧ (cw_g K (r (r R 3) 1) t) ≠ (r R 3) ∧ (cw_g K (r (r R 3) 1) t) ≠ (r R 2) := by
  have sd := fun t (ht : t < 2) => (cq_side X ht).1
  obtain ⟨x1, x2, -, x4, -, -, -, -, -, -, x11, -⟩ := X
  exact ⟨fun a ci h => cw_OG_ne h (x11 _ x4).2.2.1, cw_O_ne x4 x1 (by decide), cw_O_ne x2 x1 (by decide), cw_O_ne x2 x4 (by decide), fun t ht => ⟨cw_O_ne (sd t ht) x1 (by decide), cw_O_ne (sd t ht) x4 (by decide), cw_O_ne (sd t ht) x2 (by decide)⟩⟩
theorem cq_side_ne (X : cq_X L K r w ρ R) {t t' : Nat} (ht : t < 2) (ht' : t' < 2) (h : t ≠ t') : (cw_g K (r (r R 3) 1) t) ≠ (cw_g K (r (r R 3) 1) t') := cg_ne (cq_side X ht).2.1 (cq_side X ht').2.1 (fun e => h e.2)
/-- all that is read of it is as it was -/
theorem cq_D_keep {z' A' : Nat → Nat → Int} (h : cq_D L K r ρ R z0 A0 P O E z A) (hF : cF ρ (cq_r r ρ R) z A z' A') (hJ : cJ L K r z' A') (hs : ∀ t, t < 2 → z' (cw_g K (r (r R 3) 1) t) 0 = z (cw_g K (r (r R 3) 1) t) 0) (ha : ∀ t k, t < 2 → (k = 2 ∨ k = 3 ∨ k = 4) → A' (r (cw_g K (r (r R 3) 1) t) k) = A (r (cw_g K (r (r R 3) 1) t) k)) (he : ∀ k, (k = 9 ∨ k = 10 ∨ k = 11 ∨ k = 12) → A' (r R k) = A (r R k)) (hr : ∀ i, i < 20 → A' (cw_g K (r (r R 3) 3) i) = A (cw_g K (r (r R 3) 3) i)) : cq_D L K r ρ R z0 A0 P O E z' A' := by
  obtain ⟨d1, d2, d3, d4, d5⟩ := h
  refine ⟨cF_trans d1 hF, hJ, fun t ht => ?_, fun j hj => ?_, fun i j hi hj => by rw [hr i hi]; exact d5 i j hi hj⟩
  · have := d3 t ht
    unfold cq_B cq_d at this ⊢
    rw [hs t ht, ha t 2 ht (by omega), ha t 3 ht (by omega), ha t 4 ht (by omega)]
    exact this
  · have := d4 j hj
    unfold cq_d at this ⊢
    rw [hs 0 (by omega), hs 1 (by omega), ha 0 2 (by omega) (by omega), ha 1 2 (by omega) (by omega), he 9 (by omega), he 10 (by omega), he 11 (by omega), he 12 (by omega)]
    exact this
theorem cq_fr (X : cq_X L K r w ρ R) {z' : Nat → Nat → Int} (hz : ∀ a, a ≠ (r R 2) → a ≠ R → z' a = z a) : cF ρ (cq_r r ρ R) z A z' A := by
  intro a ha
  refine ⟨hz a (fun e => ha ?_) (fun e => ha ?_), rfl⟩
  · rw [e]; exact Or.inl X.2.2.1
  · rw [e]; exact Or.inl rfl
theorem cq_fJ (X : cq_X L K r w ρ R) {z' : Nat → Nat → Int} (hJ : cJ L K r z A) (hz : ∀ a, a ≠ (r R 2) → a ≠ R → z' a = z a) : cJ L K r z' A := cJ_z hJ (fun b hb => hz b (cw_O_ne hb X.2.1 (by decide)) (cw_O_ne hb X.1 (by decide)))
theorem cq_D_z (X : cq_X L K r w ρ R) {z' : Nat → Nat → Int} (h : cq_D L K r ρ R z0 A0 P O E z A) (hz : ∀ a, a ≠ (r R 2) → a ≠ R → z' a = z a) : cq_D L K r ρ R z0 A0 P O E z' A := by
  have o := (cq_o3 X).2.2.2.2
  exact cq_D_keep h (cq_fr X hz) (cq_fJ X h.2.1 hz) (fun t ht => by rw [hz _ (o t ht).2.2 (o t ht).1]) (fun _ _ _ _ => rfl) (fun _ _ => rfl) (fun _ _ => rfl)
theorem cq_M_z (X : cq_X L K r w ρ R) {z' : Nat → Nat → Int} (hz : ∀ a, a ≠ (r R 2) → a ≠ R → z' a = z a) : cq_M K r z A z' A R := by
  have o := (cq_o3 X).2.2.2.2
  exact fun t ht => ⟨by rw [hz _ (o t ht).2.2 (o t ht).1]; exact Int.le_refl _, fun _ _ _ => rfl⟩
theorem cq_D_mono {P' : Nat → Int → Prop} {O' : Nat → Nat → Prop} (h : cq_D L K r ρ R z0 A0 P O E z A) (hP : ∀ t d, P t d → P' t d) (hO : ∀ t i, O t i → O' t i) : cq_D L K r ρ R z0 A0 P' O' E z A := by
  obtain ⟨d1, d2, d3, d4, d5⟩ := h
  refine ⟨d1, d2, fun t ht => ⟨(d3 t ht).1, fun i hi => ?_⟩, fun j hj => ?_, d5⟩
  · obtain ⟨b1, b2, b3, b4, b5⟩ := (d3 t ht).2 i hi
    exact ⟨b1, fun c => hO t i (b2 c), b3, b4, cq_d_mono b5 (Int.le_refl _) (fun _ _ _ => rfl) (hP t)⟩
  · obtain ⟨b1, b2, b3⟩ := d4 j hj
    exact ⟨b1, cq_d_mono b2 (Int.le_refl _) (fun _ _ _ => rfl) (hP 0), cq_d_mono b3 (Int.le_refl _) (fun _ _ _ => rfl) (hP 1)⟩
theorem wq_c5_refuse {y1 y2 : Int} (X : cq_X L K r w ρ R) (F : cF ρ (cq_r r ρ R) z0 A0 z A) (J : cJ L K r z A) (T : cl_T L K r z A (r R 2)) (h1 : ¬ y1 = 0 ∧ hz_rI y1) (h2 : hz_rI y2) {Q : Int → (Nat → Nat → Int) → Prop} (hQ : ∀ z', cq_E L K r ρ R z0 A0 z' A → Q 0 z') : wp_c5_refuse L K z r A R y1 y2 Q := by
  have wr := (cq_o3 X).2.2.1
  refine ⟨X.1, fun z1 e1 z2 e2 => hQ z2 ?_⟩
  have hz : ∀ a, a ≠ (r R 2) → a ≠ R → z2 a = z a := fun a _ ha => by rw [e2, cw_s_a ha, e1, cw_s_a ha]
  have f1 : z2 R 1 = y1 := by rw [e2, cw_s_k (by decide), e1, cw_s_same]
  have f0 : z2 R 0 = y2 := by rw [e2, cw_s_same]
  exact ⟨cF_trans F (cq_fr X hz), cq_fJ X J hz, cl_T_keep T (by rw [e2, cw_s_a wr, e1, cw_s_a wr]) rfl, by rw [f1]; exact h1.1, by rw [f1]; exact h1.2, by rw [f0]; exact h2⟩
theorem wq_c7_find {s : Nat} {y : Int} (hO : cw_O L K 7 s) (h7 : cg_7 L K r w ρ) (hA : cr_A L K A) (hz : 0 ≤ z s 0 ∧ z s 0 ≤ 10) (hy : hz_rI y) {Q : Int → Prop} (h1 : ∀ x : Int, 0 ≤ x → x < z s 0 → Q x) (h0 : Q (-1)) : wp_c7_find L K z r A s y Q := by
  obtain ⟨⟨a1, a2, -, -⟩, -⟩ := h7 s hO
  intro PP hPP
  have key : ∀ (k n : Nat) (x : Int), n + (k : Int) = z s 0 → x = (n : Int) → PP x := by
    intro k
    induction k with
    | zero => intro n x hk ex; exact hPP x ⟨hO, by omega, by omega, fun _ => h0, fun c => by omega⟩
    | succ k ih => intro n x hk ex; exact hPP x ⟨hO, by omega, by omega, fun c => by omega, fun _ => ⟨a1, by omega, (hA _).1 a1 _, hy, fun _ x1 e1 => ih (n + 1) x1 (by omega) (by omega), fun _ => h1 x (by omega) (by omega)⟩⟩
  exact key (z s 0).toNat 0 0 (by omega) rfl
theorem wq_c7_begin {s : Nat} {y d : Int} {p : Int → Prop} {o : Nat → Prop} (hO : cw_O L K 7 s) (hdg : ∀ a, cw_O L K 0 a → w (r a 0) = (a, 0)) (h7 : cg_7 L K r w ρ) (hJ : cJ L K r z A) (hB : cq_B r z A s p o) (hs : z s 0 < 10) (hy : hz_rI y) (hd : cq_d r z A s p d) {Q : Int → (Nat → Nat → Int) → (Nat → Nat → Int) → Prop} (hQ : ∀ z' A' : Nat → Nat → Int, (∀ a, a ≠ s → z' a = z a) → z' s 0 = z s 0 + 1 → (∀ a, a ≠ r s 1 → a ≠ r s 2 → a ≠ r s 3 → a ≠ r s 4 → A' a = A a) → (∀ i : Nat, (i : Int) < z s 0 → A' (r s 2) i = A (r s 2) i) → cJ L K r z' A' → cq_B r z' A' s p (fun i => o i ∨ (i : Int) = z s 0) → Q (z s 0) z' A') : wp_c7_begin L K z r A s y d Q := by
  obtain ⟨⟨a1, a2, a3, a4⟩, ⟨b1, b2, b3, b4⟩, ⟨c1, c2, c3, c4⟩, ⟨e1, e2, e3, e4⟩, -, -⟩ := h7 s hO
  have n12 : r s 1 ≠ r s 2 := cg_ne a3 b3 (by simp)
  have n13 : r s 1 ≠ r s 3 := cg_ne a3 c3 (by simp)
  have n14 : r s 1 ≠ r s 4 := cg_ne a3 e3 (by simp)
  have n23 : r s 2 ≠ r s 3 := cg_ne b3 c3 (by simp)
  have n24 : r s 2 ≠ r s 4 := cg_ne b3 e3 (by simp)
  have n34 : r s 3 ≠ r s 4 := cg_ne c3 e3 (by simp)
  have hz := hB.1
  have dr : hz_rI d := by
    rcases hd with h | ⟨h, h', -⟩
    · omega
    · omega
  have dz : d < z s 0 * 512 := by
    rcases hd with h | ⟨h, h', -⟩
    · omega
    · omega
  refine ⟨hO, by omega, fun x ex => ⟨a1, by omega, fun A1 q1 => ⟨b1, by omega, fun A2 q2 => ⟨e1, by omega, fun A3 q3 => ?_⟩⟩⟩⟩
  have ex' : x = z s 0 := by omega
  clear ex
  subst ex'
  have fin : ∀ v : Int, 0 ≤ v → v ≤ z s 0 → wp_c7_begin_56 L K z r A3 s (z s 0) v (z s 0) (r s 3) Q := by
    intro v v0 v1
    refine ⟨c1, by omega, fun A4 q4 => ⟨hO, fun z1 ez => ?_⟩⟩
    have zs : z1 s 0 = z s 0 + 1 := by rw [ez, cw_s_same]
    have m2 : ∀ i : Nat, i ≠ (z s 0).toNat → A4 (r s 2) i = A (r s 2) i := fun i hi => by rw [q4, hz_s_a n23, q3, hz_s_a n24, q2, hz_s_i hi, q1, hz_s_a (Ne.symm n12)]
    have m2x : A4 (r s 2) (z s 0).toNat = 0 := by rw [q4, hz_s_a n23, q3, hz_s_a n24, q2, hz_s_same]
    have m3 : ∀ i : Nat, i ≠ (z s 0).toNat → A4 (r s 3) i = A (r s 3) i := fun i hi => by rw [q4, hz_s_i hi, q3, hz_s_a n34, q2, hz_s_a (Ne.symm n23), q1, hz_s_a (Ne.symm n13)]
    have m3x : A4 (r s 3) (z s 0).toNat = v := by rw [q4, hz_s_same]
    have m4 : ∀ i : Nat, i ≠ (z s 0).toNat → A4 (r s 4) i = A (r s 4) i := fun i hi => by rw [q4, hz_s_a (Ne.symm n34), q3, hz_s_i hi, q2, hz_s_a (Ne.symm n24), q1, hz_s_a (Ne.symm n14)]
    have m4x : A4 (r s 4) (z s 0).toNat = d := by rw [q4, hz_s_a (Ne.symm n34), q3, hz_s_same]
    have kd : ∀ d, cq_d r z A s p d → cq_d r z1 A4 s p d := fun d h => cq_d_mono h (by omega) (fun i hi _ => m2 i (by omega)) (fun _ h => h)
    have g1 := cg_dig hdg a3 hO (by decide)
    have g2 := cg_dig hdg b3 hO (by decide)
    have g3 := cg_dig hdg c3 hO (by decide)
    have g4 := cg_dig hdg e3 hO (by decide)
    have j1 : cJ L K r z A1 := by rw [q1]; exact cJ_st hJ a1 g1 ⟨fun _ => hy, by omega, by omega, by omega⟩
    have j2 : cJ L K r z A2 := by rw [q2]; exact cJ_st j1 b1 g2 ⟨fun _ => by omega, by omega, by omega, by omega⟩
    have j3 : cJ L K r z A3 := by rw [q3]; exact cJ_st j2 e1 g4 ⟨fun _ => dr, by omega, by omega, by omega⟩
    have j4 : cJ L K r z A4 := by rw [q4]; exact cJ_st j3 c1 g3 ⟨fun _ => by omega, by omega, by omega, by omega⟩
    refine hQ z1 A4 (fun a ha => by rw [ez, cw_s_a ha]) zs (fun a y1 y2 y3 y4 => by rw [q4, hz_s_a y3, q3, hz_s_a y4, q2, hz_s_a y2, q1, hz_s_a y1]) (fun i hi => m2 i (by omega)) (cJ_z j4 (fun b hb => by rw [ez, cw_s_a (cw_O_ne hb hO (by decide))])) ⟨by omega, fun i hi => ?_⟩
    by_cases ei : i = (z s 0).toNat
    · rw [ei, m2x, m3x, m4x]
      exact ⟨by omega, fun _ => Or.inr (by omega), by omega, by omega, kd d hd⟩
    · obtain ⟨y1, y2, y3, y4, y5⟩ := hB.2 i (by omega)
      rw [m2 i ei, m3 i ei, m4 i ei]
      exact ⟨y1, fun c => Or.inl (y2 c), y3, y4, kd _ y5⟩
  refine ⟨dr, fun c => ?_, fun c => fin 0 (by omega) (by omega)⟩
  rcases hd with h | ⟨h1, h2, h3⟩
  · exact absurd h c
  · refine wq_c7_setOf dr (fun _ => ⟨c1, by omega, fin _ ?_ ?_⟩) h1
    · have := (hB.2 (d / 512).toNat (by omega)).2.2.1
      rw [q3, hz_s_a n34, q2, hz_s_a (Ne.symm n23), q1, hz_s_a (Ne.symm n13)]
      omega
    · have := (hB.2 (d / 512).toNat (by omega)).2.2.1
      rw [q3, hz_s_a n34, q2, hz_s_a (Ne.symm n23), q1, hz_s_a (Ne.symm n13)]
      omega
end CN
