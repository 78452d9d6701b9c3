section CM
variable {L : List Nat} {K : Nat → cw_K} {r : Nat → Nat → Nat} {z A : Nat → Nat → Int} {w : Nat → Nat × Nat} {ρ : Nat → Nat} {z0 A0 : Nat → Nat → Int} {R : Nat} {P : Nat → Int → Prop} {O : Nat → Nat → Prop} {E : Int} {c : Nat → Int} {n : Nat}
/-- a side's arrays apart from all else that is read -/
theorem cq_apart (X : cq_X L K r w ρ R) {t k : Nat} (ht : t < 2) (hk : k = 1 ∨ k = 2 ∨ k = 3 ∨ k = 4 ∨ k = 6 ∨ k = 7) : (∀ j, (j = 9 ∨ j = 10 ∨ j = 11 ∨ j = 12) → r R j ≠ r (cw_g K (r (r R 3) 1) t) k) ∧ (∀ i, i < 20 → (cw_g K (r (r R 3) 3) i) ≠ r (cw_g K (r (r R 3) 1) t) k) ∧ r (r R 3) 0 ≠ r (cw_g K (r (r R 3) 1) t) k ∧ ∀ t' k', t' < 2 → (k' = 1 ∨ k' = 2 ∨ k' = 3 ∨ k' = 4 ∨ k' = 6 ∨ k' = 7) → t' ≠ t → r (cw_g K (r (r R 3) 1) t') k' ≠ r (cw_g K (r (r R 3) 1) t) k := by
  have o := cq_o3 X
  have q := (cq_ws X ht hk).2.2.1
  have s1 := (cq_side X ht).1
  refine ⟨fun j hj => cg_ne (cq_wr X hj).1 q (fun e => (o.2.2.2.2 t ht).1 e.1.symm), fun i hi => cg_ne (cq_ww X hi).2.2.1 q (fun e => o.1 _ _ s1 e.1.symm), cg_ne (cq_wc X).2.2.1 q (fun e => (o.2.2.2.2 t ht).2.1 e.1.symm), fun t' k' ht' hk' hne => cg_ne (cq_ws X ht' hk').2.2.1 q (fun e => cq_side_ne X ht' ht hne e.1)⟩
theorem wq_c5_enterSet {t : Nat} {y2 y3 y5 : Int} (X : cq_X L K r w ρ R) (D : cq_D L K r ρ R z0 A0 P O E z A) (T : cl_T L K r z A (r R 2)) (ht : t < 2) (hy2 : hz_rI y2) (hy3 : hz_rL y3) (hd : cq_d r z A (cw_g K (r (r R 3) 1) t) (P t) y5) {Q : Int → (Nat → Nat → Int) → (Nat → Nat → Int) → Prop} (h1 : ∀ (x : Int) (z' A' : Nat → Nat → Int), (0 ≤ x ∧ x < z' (cw_g K (r (r R 3) 1) t) 0) → y3 < 1000000000 → cq_D L K r ρ R z0 A0 P (cq_O O t x) E z' A' → cq_M K r z A z' A' R → z' (r R 2) = z (r R 2) → z' R = z R → A' (r (r R 2) 0) = A (r (r R 2) 0) → A' (r (r R 3) 0) = A (r (r R 3) 0) → Q x z' A') (h0 : ∀ z' A', cq_E L K r ρ R z0 A0 z' A' → Q (-1) z' A') : wp_c5_enterSet L K z r A R (cw_g K (r (r R 3) 1) t) y2 y3 y5 Q := by
  obtain ⟨s1, s2, s3⟩ := cq_side X ht
  obtain ⟨x1, x2, -, x4, -, -, -, -, -, x10, x11, x12⟩ := id X
  obtain ⟨d1, d2, d3, d4, d5⟩ := id D
  have B := d3 t ht
  have o := cq_o3 X
  have t5 := T.2.2.2.2.1
  have dr : hz_rI y5 := by
    have := B.1
    rcases hd with h | ⟨h, h', -⟩
    · omega
    · omega
  have no : ∀ v : Int, (¬ v = 0 ∧ hz_rI v) → wp_c5_refuse L K z r A R v y2 (fun _ z' => Q (-1) z' A) := fun v hv => wq_c5_refuse X d1 d2 T hv hy2 (fun z' e => h0 z' A e)
  refine ⟨x1, x2, s1, wq_c7_find s1 x12 d2.2 B.1 (by omega) (fun x xa xb => ⟨by have := B.1; omega, fun _ => ⟨hy3, fun c3 => ⟨by have := B.1; omega, fun _ => ⟨s1, (cq_ws X ht (by omega)).1, by have := B.1; have := (cq_ws X ht (k := 4) (by omega)).2.1; omega, (d2.2 _).1 (cq_ws X ht (by omega)).1 _, dr, fun _ => h1 x z A ⟨xa, xb⟩ c3 (cq_D_mono D (fun _ _ h => h) (fun _ _ h => Or.inl h)) cq_M_refl rfl rfl rfl rfl, fun _ => ⟨x1, no 4 (by decide)⟩⟩, fun c => by omega⟩, fun _ => ⟨x1, no 6 (by decide)⟩⟩, fun c => by omega⟩) ⟨by decide, fun c => absurd rfl c, fun _ => ⟨by have := B.1; omega, fun c2 => ⟨hy3, fun c3 => ⟨by decide, fun c => absurd rfl c, fun _ => ⟨x1, x2, s1, ?_⟩⟩, fun _ => ⟨x1, no 6 (by decide)⟩⟩, fun _ => no 2 (by decide)⟩⟩⟩
  refine wq_c7_begin s1 x10 x12 d2 B c2 (by omega) hd (fun z' A' o1 o2 o3 o4 o5 o6 => ?_)
  have aw : r (r R 2) 0 ≠ r (cw_g K (r (r R 3) 1) t) 1 ∧ r (r R 2) 0 ≠ r (cw_g K (r (r R 3) 1) t) 2 ∧ r (r R 2) 0 ≠ r (cw_g K (r (r R 3) 1) t) 3 ∧ r (r R 2) 0 ≠ r (cw_g K (r (r R 3) 1) t) 4 := by
    have f : ∀ k, (k = 1 ∨ k = 2 ∨ k = 3 ∨ k = 4 ∨ k = 6 ∨ k = 7) → r (r R 2) 0 ≠ r (cw_g K (r (r R 3) 1) t) k := fun k hk e => by
      have q := T.2.1
      rw [e] at q
      have := cw_A_ne q (cq_ws X ht hk).1
      omega
    exact ⟨f 1 (by omega), f 2 (by omega), f 3 (by omega), f 4 (by omega)⟩
  have mv : ∀ t', t' < 2 → z (cw_g K (r (r R 3) 1) t') 0 ≤ z' (cw_g K (r (r R 3) 1) t') 0 ∧ ∀ i : Nat, (i : Int) < z (cw_g K (r (r R 3) 1) t') 0 → 0 < A (r (cw_g K (r (r R 3) 1) t') 2) i → A' (r (cw_g K (r (r R 3) 1) t') 2) i = A (r (cw_g K (r (r R 3) 1) t') 2) i := by
    intro t' ht'
    by_cases e : t' = t
    · rw [e]
      exact ⟨by omega, fun i hi _ => o4 i hi⟩
    · refine ⟨by rw [o1 _ (cq_side_ne X ht' ht e)]; exact Int.le_refl _, fun i _ _ => ?_⟩
      rw [o3 _ ((cq_apart X ht (by omega)).2.2.2 t' 2 ht' (by omega) e) ((cq_apart X ht (by omega)).2.2.2 t' 2 ht' (by omega) e) ((cq_apart X ht (by omega)).2.2.2 t' 2 ht' (by omega) e) ((cq_apart X ht (by omega)).2.2.2 t' 2 ht' (by omega) e)]
  have ea : ∀ j, (j = 9 ∨ j = 10 ∨ j = 11 ∨ j = 12) → A' (r R j) = A (r R j) := fun j hj => o3 _ ((cq_apart X ht (by omega)).1 j hj) ((cq_apart X ht (by omega)).1 j hj) ((cq_apart X ht (by omega)).1 j hj) ((cq_apart X ht (by omega)).1 j hj)
  have er : ∀ i, i < 20 → A' (cw_g K (r (r R 3) 3) i) = A (cw_g K (r (r R 3) 3) i) := fun i hi => o3 _ ((cq_apart X ht (by omega)).2.1 i hi) ((cq_apart X ht (by omega)).2.1 i hi) ((cq_apart X ht (by omega)).2.1 i hi) ((cq_apart X ht (by omega)).2.1 i hi)
  have eg : A' (r (r R 3) 0) = A (r (r R 3) 0) := o3 _ (cq_apart X ht (by omega)).2.2.1 (cq_apart X ht (by omega)).2.2.1 (cq_apart X ht (by omega)).2.2.1 (cq_apart X ht (by omega)).2.2.1
  have B1 := B.1
  refine h1 (z (cw_g K (r (r R 3) 1) t) 0) z' A' (by omega) c3 ⟨cF_trans d1 ?_, o5, fun t' ht' => ?_, fun j hj => ?_, fun i j hi hj => by rw [er i hi]; exact d5 i j hi hj⟩ mv (o1 _ (Ne.symm (o.2.2.2.2 t ht).2.2)) (o1 _ (Ne.symm (o.2.2.2.2 t ht).1)) (o3 _ aw.1 aw.2.1 aw.2.2.1 aw.2.2.2) eg
  · intro a ha
    have na : ∀ k, (k = 1 ∨ k = 2 ∨ k = 3 ∨ k = 4 ∨ k = 6 ∨ k = 7) → a ≠ r (cw_g K (r (r R 3) 1) t) k := fun k hk e => ha (by rw [e]; exact Or.inr (cq_ws X ht hk).2.2.2)
    exact ⟨o1 a (fun e => ha (by rw [e]; exact Or.inr s3)), o3 a (na 1 (by omega)) (na 2 (by omega)) (na 3 (by omega)) (na 4 (by omega))⟩
  · by_cases e : t' = t
    · subst e
      refine ⟨o6.1, fun i hi => ?_⟩
      obtain ⟨y1, y2, y3, y4, y5⟩ := o6.2 i hi
      refine ⟨y1, fun q => ?_, y3, y4, y5⟩
      rcases y2 q with q | q
      · exact Or.inl q
      · exact Or.inr ⟨rfl, q⟩
    · have hB := d3 t' ht'
      have f : ∀ k, (k = 1 ∨ k = 2 ∨ k = 3 ∨ k = 4 ∨ k = 6 ∨ k = 7) → A' (r (cw_g K (r (r R 3) 1) t') k) = A (r (cw_g K (r (r R 3) 1) t') k) := fun k hk => o3 _ ((cq_apart X ht (by omega)).2.2.2 t' k ht' hk e) ((cq_apart X ht (by omega)).2.2.2 t' k ht' hk e) ((cq_apart X ht (by omega)).2.2.2 t' k ht' hk e) ((cq_apart X ht (by omega)).2.2.2 t' k ht' hk e)
      have hz := o1 _ (cq_side_ne X ht' ht e)
      refine ⟨by rw [hz]; exact hB.1, fun i hi => ?_⟩
      rw [hz] at hi
      obtain ⟨y1, y2, y3, y4, y5⟩ := hB.2 i hi
      rw [f 2 (by omega), f 3 (by omega), f 4 (by omega)]
      exact ⟨y1, fun q => Or.inl (y2 q), y3, y4, cq_d_mono y5 (mv t' ht').1 (mv t' ht').2 (fun _ h => h)⟩
  · obtain ⟨y1, y2, y3⟩ := d4 j hj
    rw [ea 9 (by omega), ea 10 (by omega), ea 11 (by omega), ea 12 (by omega)]
    exact ⟨y1, cq_d_mono y2 (mv 0 (by omega)).1 (mv 0 (by omega)).2 (fun _ h => h), cq_d_mono y3 (mv 1 (by omega)).1 (mv 1 (by omega)).2 (fun _ h => h)⟩
/-- the deeds of a set whose node is being read -/
noncomputable def cq_P (P : Nat → Int → Prop) (t : Nat) (x m : Int) : Nat → Int → Prop := fun t' d => P t' d ∨ (t' = t ∧ d / 512 = x ∧ d % 512 < m)
theorem wq_c5_endChoice {t : Nat} {y1 x m : Int} (X : cq_X L K r w ρ R) (D : cq_D L K r ρ R z0 A0 (cq_P P t x m) (cq_O O t x) E z A) (T : cl_T L K r z A (r R 2)) (ht : t < 2) (hy1 : hz_rI y1) (hx : 0 ≤ x ∧ x < z (cw_g K (r (r R 3) 1) t) 0) (hm : 1 ≤ m ∧ m ≤ 400) {Q : Int → (Nat → Nat → Int) → (Nat → Nat → Int) → Prop} (h1 : m ≤ 4 → ∀ A' : Nat → Nat → Int, cq_D L K r ρ R z0 A0 P O E z A' → cq_M K r z A z A' R → A' (r (r R 2) 0) = A (r (r R 2) 0) → A' (r (r R 3) 0) = A (r (r R 3) 0) → Q 1 z A') (h0 : ∀ z' A', cq_E L K r ρ R z0 A0 z' A' → Q 0 z' A') : wp_c5_endChoice L K z r A R y1 (cw_g K (r (r R 3) 1) t) x m Q := by
  obtain ⟨s1, s2, s3⟩ := cq_side X ht
  have x1 := X.1
  have x10 := X.2.2.2.2.2.2.2.2.2.1
  obtain ⟨d1, d2, d3, d4, d5⟩ := id D
  have B := d3 t ht
  have B1 := B.1
  obtain ⟨g1, g2, g3, g4⟩ := cq_ws X ht (k := 2) (by omega)
  have ap := cq_apart X ht (k := 2) (by omega)
  have mx := (B.2 x.toNat (by omega)).1
  have last : m ≤ 4 → ∀ A1 : Nat → Nat → Int, (∀ a, a ≠ r (cw_g K (r (r R 3) 1) t) 2 → A1 a = A a) → (∀ i : Nat, i ≠ x.toNat → A1 (r (cw_g K (r (r R 3) 1) t) 2) i = A (r (cw_g K (r (r R 3) 1) t) 2) i) → (0 < A (r (cw_g K (r (r R 3) 1) t) 2) x.toNat → A1 (r (cw_g K (r (r R 3) 1) t) 2) x.toNat = A (r (cw_g K (r (r R 3) 1) t) 2) x.toNat) → (0 ≤ A1 (r (cw_g K (r (r R 3) 1) t) 2) x.toNat ∧ A1 (r (cw_g K (r (r R 3) 1) t) 2) x.toNat ≤ 4) → cJ L K r z A1 → wp_c5_endChoice_30 L K z r A1 R y1 (cw_g K (r (r R 3) 1) t) x m Q := by
    intro hm4 A1 o1 o2 o3 o4 j1
    have F1 : cF ρ (cq_r r ρ R) z0 A0 z A1 := cF_trans d1 (fun a ha => ⟨rfl, o1 a (fun e => ha (by rw [e]; exact Or.inr g4))⟩)
    have aw : A1 (r (r R 2) 0) = A (r (r R 2) 0) := o1 _ (fun e => by
      have q := T.2.1
      rw [e] at q
      have := cw_A_ne q g1
      omega)
    have T1 : cl_T L K r z A1 (r R 2) := cl_T_keep T rfl aw
    refine ⟨s1, g1, by omega, by omega, by omega, fun c => ⟨Or.inr rfl, ?_⟩, fun c => ⟨x1, wq_c5_refuse X F1 j1 T1 (by decide) hy1 (fun z' e => ⟨by decide, fun _ => ⟨Or.inl rfl, h0 z' A1 e⟩, fun q => absurd rfl q⟩)⟩⟩
    have mv : ∀ t', t' < 2 → ∀ i : Nat, (i : Int) < z (cw_g K (r (r R 3) 1) t') 0 → 0 < A (r (cw_g K (r (r R 3) 1) t') 2) i → A1 (r (cw_g K (r (r R 3) 1) t') 2) i = A (r (cw_g K (r (r R 3) 1) t') 2) i := by
      intro t' ht' i hi hp
      by_cases e : t' = t
      · subst e
        by_cases ei : i = x.toNat
        · subst ei; exact o3 hp
        · exact o2 i ei
      · rw [o1 _ (ap.2.2.2 t' 2 ht' (by omega) e)]
    have kd : ∀ t', t' < 2 → ∀ d, cq_d r z A (cw_g K (r (r R 3) 1) t') (cq_P P t x m t') d → cq_d r z A1 (cw_g K (r (r R 3) 1) t') (P t') d := by
      intro t' ht' d h
      rcases h with h | ⟨h1, h2, h3⟩
      · exact Or.inl h
      · refine Or.inr ⟨h1, h2, ?_⟩
        rcases h3 with (h3 | ⟨q1, q2, q3⟩) | h3
        · exact Or.inl h3
        · subst q1
          refine Or.inr ?_
          rw [q2, c]
          exact q3
        · refine Or.inr ?_
          rw [mv t' ht' _ (by omega) (by omega)]
          exact h3
    refine h1 hm4 A1 ⟨F1, j1, fun t' ht' => ⟨(d3 t' ht').1, fun i hi => ?_⟩, fun j hj => ?_, fun i j hi hj => by rw [o1 _ (ap.2.1 i hi)]; exact d5 i j hi hj⟩ (fun t' ht' => ⟨Int.le_refl _, mv t' ht'⟩) aw (o1 _ ap.2.2.1)
    · obtain ⟨y1, y2, y3, y4, y5⟩ := (d3 t' ht').2 i hi
      have f : ∀ k, (k = 3 ∨ k = 4) → A1 (r (cw_g K (r (r R 3) 1) t') k) = A (r (cw_g K (r (r R 3) 1) t') k) := by
        intro k hk
        by_cases e : t' = t
        · subst e
          exact o1 _ (cg_ne (cq_ws X ht' (by omega)).2.2.1 g3 (fun e => by omega))
        · exact o1 _ (ap.2.2.2 t' k ht' (by omega) e)
      rw [f 3 (by omega), f 4 (by omega)]
      by_cases e : t' = t
      · subst e
        by_cases ei : i = x.toNat
        · subst ei
          exact ⟨o4, fun q => by omega, y3, y4, kd t' ht' _ y5⟩
        · rw [o2 i ei]
          refine ⟨y1, fun q => ?_, y3, y4, kd t' ht' _ y5⟩
          rcases y2 q with q | ⟨-, q⟩
          · exact q
          · omega
      · rw [o1 _ (ap.2.2.2 t' 2 ht' (by omega) e)]
        refine ⟨y1, fun q => ?_, y3, y4, kd t' ht' _ y5⟩
        rcases y2 q with q | ⟨q, -⟩
        · exact q
        · exact absurd q e
    · obtain ⟨y1, y2, y3⟩ := d4 j hj
      rw [o1 _ (ap.1 9 (by omega)), o1 _ (ap.1 10 (by omega)), o1 _ (ap.1 11 (by omega)), o1 _ (ap.1 12 (by omega))]
      exact ⟨y1, kd 0 (by omega) _ y2, kd 1 (by omega) _ y3⟩
  refine ⟨by omega, fun c => ⟨s1, g1, by omega, by omega, fun q => last c A (fun _ _ => rfl) (fun _ _ => rfl) (fun _ => rfl) mx d2, fun q => ⟨by omega, fun A1 e1 => ?_⟩⟩, fun c => ⟨x1, wq_c5_refuse X d1 d2 T (by decide) hy1 (fun z' e => ⟨Or.inl rfl, h0 z' A e⟩)⟩⟩
  have sx : A1 (r (cw_g K (r (r R 3) 1) t) 2) x.toNat = m := by rw [e1, hz_s_same]
  exact last c A1 (fun a ha => by rw [e1, hz_s_a ha]) (fun i hi => by rw [e1, hz_s_i hi]) (fun h => by omega) (by rw [sx]; omega) (by rw [e1]; exact cJ_st d2 g1 (cg_dig x10 g3 s1 (by decide)) ⟨fun _ => by omega, by omega, by omega, by omega⟩)
theorem wq_c5_endDraw {y1 d m s : Int} (X : cq_X L K r w ρ R) (F : cF ρ (cq_r r ρ R) z0 A0 z A) (J : cJ L K r z A) (T : cl_T L K r z A (r R 2)) (hy1 : hz_rI y1) (hd : hz_rI d) (hm : hz_rL m) (hs : hz_rL s) {Q : Int → (Nat → Nat → Int) → Prop} (h1 : d ≤ 8 → Q 1 z) (h0 : ∀ z', cq_E L K r ρ R z0 A0 z' A → Q 0 z') : wp_c5_endDraw L K z r A R y1 d m s Q := by
  refine ⟨hd, fun c => ⟨hm, fun _ => ⟨hs, hm, fun _ => ⟨Or.inr rfl, h1 c⟩, fun _ => ⟨X.1, wq_c5_refuse X F J T (by decide) hy1 (fun z' e => ⟨by decide, fun _ => ⟨Or.inl rfl, h0 z' e⟩, fun q => absurd rfl q⟩)⟩⟩, fun _ => ⟨X.1, wq_c5_refuse X F J T (by decide) hy1 (fun z' e => ⟨Or.inl rfl, h0 z' e⟩)⟩⟩, fun _ => ⟨X.1, wq_c5_refuse X F J T (by decide) hy1 (fun z' e => ⟨Or.inl rfl, h0 z' e⟩)⟩⟩
end CM
