section CI
variable {L : List Nat} {K : Nat → cw_K} {r r' : Nat → Nat → Nat} {z A : Nat → Nat → Int} {w : Nat → Nat × Nat} {ρ : Nat → Nat} {S : Nat → Prop} {h g R : Nat} {σ Am B : Nat → Nat → Int} {zm zm' : Nat → Int} {z' A' : Nat → Nat → Int}
/-- what holds of the class's numbers: known ones have something above 0 below -/
noncomputable def nc_P (K : Nat → cw_K) (r : Nat → Nat → Nat) (h : Nat) (z A : Nat → Nat → Int) : Prop := ∀ i, i < 4 → z (cw_g K (r h 9) i) 2 = 1 → 0 < cb_v r z A (r (cw_g K (r h 9) i) 1)
/-- the numbers are as they were -/
noncomputable def nc_S (K : Nat → cw_K) (r : Nat → Nat → Nat) (h : Nat) (z A z' A' : Nat → Nat → Int) : Prop := ∀ i, i < 4 → z' (cw_g K (r h 9) i) 2 = z (cw_g K (r h 9) i) 2 ∧ cb_v r z' A' (r (cw_g K (r h 9) i) 0) = cb_v r z A (r (cw_g K (r h 9) i) 0) ∧ cb_v r z' A' (r (cw_g K (r h 9) i) 1) = cb_v r z A (r (cw_g K (r h 9) i) 1)
theorem wz_c11_isKnown {y : Int} (I : ci_I L K r w ρ z A h) (hy : hz_rI y) {Q : Int → Prop} (h1 : (0 ≤ y ∧ y < 4 ∧ z (cw_g K (r h 9) y.toNat) 2 = 1) → Q 1) (h0 : ¬ (0 ≤ y ∧ y < 4 ∧ z (cw_g K (r h 9) y.toNat) 2 = 1) → Q 0) : wp_c11_isKnown L K z r A h y Q := by
  obtain ⟨-, -, -, -, -, -, -, -, -, -, ⟨l1, l2, l3⟩, -⟩ := I.2.1
  refine ⟨hy, fun _ => ⟨by omega, h0 (by omega)⟩, fun c => ⟨hy, fun _ => ⟨by omega, h0 (by omega)⟩, fun c2 => ?_⟩⟩
  have R := I.2.2.2.2.2.2.2.2.2.1 y.toNat (by omega)
  exact ⟨I.2.1.1.1, l1, by omega, (l3 _ (by omega)).1, by omega, fun c3 => ⟨by omega, h0 (fun q => by have := q.2.2; omega)⟩, fun c3 => ⟨by omega, h1 ⟨by omega, by omega, by omega⟩⟩⟩
theorem wy_c11_character {y : Int} (I : ci_I L K r w ρ z A h) (hy : hz_rI y) {Q : Int → Prop} (hQ : ∀ x, ((0 ≤ y ∧ y < z h 2) ∧ x = A (r h 1) y.toNat) ∨ (¬ (0 ≤ y ∧ y < z h 2) ∧ x = -1) → Q x) : wp_c11_character L K z r A h y Q := by
  have q2 := I.2.2.2.2.2.2.2.2.2.2.1
  obtain ⟨-, -, -, ⟨d1, d2, d3, d4⟩, -⟩ := I.2.1
  exact ⟨hy, fun _ => hQ _ (Or.inr ⟨by omega, rfl⟩), fun c => ⟨I.2.1.1.1, hy, by omega, fun _ => hQ _ (Or.inr ⟨by omega, rfl⟩), fun c2 => ⟨d1, by omega, hQ _ (Or.inl ⟨by omega, rfl⟩)⟩⟩⟩
/-- a number other than that which is looked at -/
theorem nc_keep (I : ci_I L K r w ρ z A h) {S9 : Nat → Prop} (F : cF ρ S9 z A z' A') {i : Nat} (hi : i < 4) (hS : ¬ S9 (12 + i)) : cb_v r z' A' (r (cw_g K (r h 9) i) 0) = cb_v r z A (r (cw_g K (r h 9) i) 0) ∧ cb_v r z' A' (r (cw_g K (r h 9) i) 1) = cb_v r z A (r (cw_g K (r h 9) i) 1) := by
  obtain ⟨hdg, h1, h2, h3, h4, -⟩ := id I.1
  obtain ⟨-, -, -, -, -, -, -, -, -, -, ⟨l1, l2, l3⟩, -⟩ := id I.2.1
  obtain ⟨R1, R2⟩ := l3 i hi
  obtain ⟨⟨t1, t2, t3, t4⟩, ⟨b1, b2, b3, b4⟩, -⟩ := h4 _ R1
  exact ⟨(cF_big h1 F t1 (by rw [t4, R2]; exact hS)).2.1, (cF_big h1 F b1 (by rw [b4, R2]; exact hS)).2.1⟩
theorem wy_c11_print {y : Int} (I : ci_I L K r w ρ z A h) (hy : hz_rI y) (hN : nc_P K r h z A) {Q : Int → (Nat → Nat → Int) → (Nat → Nat → Int) → Prop} (hQ : ∀ (x : Int) (z' A' : Nat → Nat → Int), ci_I L K r w ρ z' A' h → z' (r (r h 0) 2) 1 = z (r (r h 0) 2) 1 → ci_E K r ρ h z A z' A' → nc_S K r h z A z' A' → ((¬ (0 ≤ y ∧ y < 4 ∧ z (cw_g K (r h 9) y.toNat) 2 = 1) ∧ x = -1 ∧ z' h 2 = z h 2 ∧ A' (r h 1) = A (r h 1)) ∨ ((0 ≤ y ∧ y < 4 ∧ z (cw_g K (r h 9) y.toNat) 2 = 1) ∧ z' h 2 = x ∧ nu_P (cb_v r z A (r (cw_g K (r h 9) y.toNat) 0)) (cb_v r z A (r (cw_g K (r h 9) y.toNat) 1)) x (A' (r h 1)))) → Q x z' A') : wp_c11_print L K z r A h y Q := by
  obtain ⟨hdg, h1, h2, h3, h4, h6, h7, h8, h9⟩ := id I.1
  obtain ⟨⟨a1, a2⟩, ⟨b1, b2⟩, ⟨c1, c2, c3⟩, ⟨d1, d2, d3, d4⟩, -, -, -, -, -, -, ⟨l1, l2, l3⟩, -⟩ := id I.2.1
  have g := ci_g I
  refine ⟨a1, wz_c11_isKnown I hy (fun hk => ⟨by decide, fun _ => ⟨l1, by omega, (l3 _ (by omega)).1, ?_⟩, fun c => absurd c (by decide)⟩) (fun hk => ⟨by decide, fun c => absurd rfl c, fun _ => hQ _ z A I rfl (ci_E_refl _ _ _ _ _ _) (fun _ _ => ⟨rfl, rfl, rfl⟩) (Or.inl ⟨hk, rfl, rfl, rfl⟩)⟩)⟩
  obtain ⟨R1, R2⟩ := l3 y.toNat (by omega)
  obtain ⟨S9, hS⟩ : ∃ S9 : Nat → Prop, S9 = fun q => q = 0 ∨ q = 12 + y.toNat := ⟨_, rfl⟩
  obtain ⟨⟨t1, t2, t3, t4⟩, ⟨u1, u2, u3, u4⟩, ⟨f1, f2, f3, f4⟩, -, -⟩ := h4 _ R1
  refine wz_c4_write (S := S9) I.2.2.1 h1 h4 R1 (by rw [hS, R2]; exact Or.inr rfl) d1 (by omega) (by rw [hS, d4, a2]; exact Or.inl rfl) (hN y.toNat (by omega) hk.2.2) (fun v z1 A1 j1 F1 o1 hv pv p1 z2 e2 => ?_)
  have F2 : cF ρ S9 z A z2 A1 := cF_trans F1 (by rw [e2]; exact cF_s (by rw [hS, a2]; exact Or.inl rfl))
  have j2 : cJ L K r z2 A1 := ⟨cb_all_z j1.1 (fun q hq => by rw [e2, cw_s_a (cw_O_ne hq a1 (by decide))]), j1.2⟩
  have hh : z1 h = z h := o1 h (cw_O_ne a1 (h4 _ R1).2.2.1.1 (by decide))
  have q15 := I.2.2.2.2.2.2.2.2.2.2.2
  have res : ∀ i, i < 4 → z2 (cw_g K (r h 9) i) 2 = z (cw_g K (r h 9) i) 2 := fun i hi => by
    rw [e2, cw_s_a (cw_O_ne (l3 i hi).1 a1 (by decide)), o1 _ (cw_O_ne (l3 i hi).1 (h4 _ R1).2.2.1.1 (by decide))]
  have big : ∀ b, cw_O L K 0 b → b ≠ r (cw_g K (r h 9) y.toNat) 3 → cb_v r z2 A1 b = cb_v r z A b := fun b hb hne =>
    (cb_uv (r := r) (z := z) (A := A) (z' := z2) (A' := A1) (by rw [e2, cw_s_a (cw_O_ne hb a1 (by decide)), o1 _ hne]) (p1 _ (cd_dig I.2.2.1.1 d1 (by decide) b hb) (cb_ne I.2.2.1.1.1 f1 hb hne))).2
  have num : nc_S K r h z A z2 A1 := fun i hi => by
    obtain ⟨R1', R2'⟩ := l3 i hi
    obtain ⟨⟨t1', t2', t3', t4'⟩, ⟨b1', b2', b3', b4'⟩, -⟩ := h4 _ R1'
    exact ⟨res i hi, big _ t1' (cg_ne t3' f3 (by simp)), big _ b1' (cg_ne b3' f3 (by simp))⟩
  have e22 : z2 h 2 = v := by rw [e2, cw_s_same]
  rw [e22]
  refine hQ _ z2 A1 (ci_keep I F2 j2 (by rw [hS]; show ¬ (ρ (r h 13) = 0 ∨ ρ (r h 13) = 12 + y.toNat); omega) (fun _ => ⟨by rw [e2, cw_s_k (by decide), hh], by rw [e2, cw_s_same]; omega, by rw [e2, cw_s_k (by decide), hh]; exact q15⟩) (fun s => by rw [hS] at s; rcases s with s | s <;> omega) (fun i hi s => by rw [hS] at s; rcases s with s | s <;> omega) (fun i hi s => by rw [hS] at s; rcases s with s | s <;> omega) (fun i hi s => by rw [hS] at s; rcases s with s | s <;> omega) (fun i hi _ => by rw [res i hi]; exact I.2.2.2.2.2.2.2.2.2.1 i hi)) ?_ (ci_E_of I F2 (fun q hq => by rw [hS] at hq; rcases hq with hq | hq <;> omega) (fun yy hyy => by rw [e2, cw_s_k hyy, hh]) (fun i hi => res (2 + i) (by omega))) num (Or.inr ⟨hk, e22, pv⟩)
  rw [e2, cw_s_a (cw_O_ne c1 a1 (by decide)), o1 _ (cw_O_ne c1 (h4 _ R1).2.2.1.1 (by decide))]
/-- what comparing answers -/
noncomputable def nu_C (t b t' b' x : Int) : Prop := (x = 0 ∨ x = 1 ∨ x = -1) ∧ (x = 0 ↔ t * b' = t' * b) ∧ (x = 1 ↔ t' * b < t * b') ∧ (x = -1 ↔ t * b' < t' * b)
theorem nu_C_u {t b t' b' x x' : Int} (h : nu_C t b t' b' x) (h' : nu_C t b t' b' x') : x = x' := by
  obtain ⟨h1, h2, h3, h4⟩ := h
  obtain ⟨k1, k2, k3, k4⟩ := h'
  rcases h1 with c | c | c
  · rw [c, k2.mpr (h2.mp c)]
  · rw [c, k3.mpr (h3.mp c)]
  · rw [c, k4.mpr (h4.mp c)]
theorem wy_c11_compare {x y : Int} (I : ci_I L K r w ρ z A h) (hx : hz_rI x) (hy : hz_rI y) {Q : Int → (Nat → Nat → Int) → (Nat → Nat → Int) → Prop} (hQ : ∀ (v : Int) (z' A' : Nat → Nat → Int), ci_I L K r w ρ z' A' h → z' (r (r h 0) 2) 1 = z (r (r h 0) 2) 1 → ci_E K r ρ h z A z' A' → nc_S K r h z A z' A' → (z' h 2 = z h 2 ∧ A' (r h 1) = A (r h 1)) → ((¬ ((0 ≤ x ∧ x < 4 ∧ z (cw_g K (r h 9) x.toNat) 2 = 1) ∧ (0 ≤ y ∧ y < 4 ∧ z (cw_g K (r h 9) y.toNat) 2 = 1)) ∧ v = -2) ∨ (((0 ≤ x ∧ x < 4 ∧ z (cw_g K (r h 9) x.toNat) 2 = 1) ∧ (0 ≤ y ∧ y < 4 ∧ z (cw_g K (r h 9) y.toNat) 2 = 1)) ∧ nu_C (cb_v r z A (r (cw_g K (r h 9) x.toNat) 0)) (cb_v r z A (r (cw_g K (r h 9) x.toNat) 1)) (cb_v r z A (r (cw_g K (r h 9) y.toNat) 0)) (cb_v r z A (r (cw_g K (r h 9) y.toNat) 1)) v)) → Q v z' A') : wp_c11_compare L K z r A h x y Q := by
  obtain ⟨hdg, h1, h2, h3, h4, h6, h7, h8, h9⟩ := id I.1
  obtain ⟨⟨a1, a2⟩, -, ⟨c1, c2, c3⟩, ⟨d1, d2, d3, d4⟩, -, -, -, -, -, -, ⟨l1, l2, l3⟩, -⟩ := id I.2.1
  have g := ci_g I
  have no : ¬ ((0 ≤ x ∧ x < 4 ∧ z (cw_g K (r h 9) x.toNat) 2 = 1) ∧ (0 ≤ y ∧ y < 4 ∧ z (cw_g K (r h 9) y.toNat) 2 = 1)) → wp_c11_compare_34 L K z r A Q := fun n => hQ _ z A I rfl (ci_E_refl _ _ _ _ _ _) (fun _ _ => ⟨rfl, rfl, rfl⟩) ⟨rfl, rfl⟩ (Or.inl ⟨n, rfl⟩)
  refine ⟨a1, wz_c11_isKnown I hx (fun hx4 => ⟨by decide, fun c => absurd c (by decide), fun _ => wz_c11_isKnown I hy (fun hy4 => ⟨by decide, fun c => absurd c (by decide), fun _ => ⟨l1, by omega, by omega, (l3 _ (by omega)).1, ?_⟩⟩) (fun n => ⟨by decide, fun _ => no (fun q => n q.2), fun c => absurd rfl c⟩)⟩) (fun n => ⟨by decide, fun _ => no (fun q => n q.1), fun c => absurd rfl c⟩)⟩
  obtain ⟨R1, R2⟩ := l3 x.toNat (by omega)
  obtain ⟨S9, hS⟩ : ∃ S9 : Nat → Prop, S9 = fun q => q = 12 + x.toNat := ⟨_, rfl⟩
  obtain ⟨⟨t1, t2, t3, t4⟩, ⟨u1, u2, u3, u4⟩, ⟨f1, f2, f3, f4⟩, ⟨s1, s2, s3, s4⟩, -⟩ := h4 _ R1
  refine wz_c4_order (S := S9) I.2.2.1 h1 h4 R1 (l3 y.toNat (by omega)).1 (by rw [hS]; exact R2) (fun v z1 A1 j1 F1 v1 v2 v3 v4 o1 p1 => ?_)
  have nf : ∀ q, cw_O L K 4 q → z1 q = z q := fun q hq => o1 q (cw_O_ne hq (h4 _ R1).2.2.1.1 (by decide)) (cw_O_ne hq (h4 _ R1).2.2.2.1.1 (by decide))
  have big : ∀ b, cw_O L K 0 b → b ≠ r (cw_g K (r h 9) x.toNat) 3 → b ≠ r (cw_g K (r h 9) x.toNat) 4 → cb_v r z1 A1 b = cb_v r z A b := fun b hb n1 n2 =>
    (cb_uv (r := r) (z := z) (A := A) (z' := z1) (A' := A1) (o1 _ n1 n2) (p1 _ (cb_ne I.2.2.1.1.1 f1 hb n1) (cb_ne I.2.2.1.1.1 s1 hb n2))).2
  have num : nc_S K r h z A z1 A1 := fun i hi => by
    obtain ⟨R1', R2'⟩ := l3 i hi
    obtain ⟨⟨t1', t2', t3', t4'⟩, ⟨b1', b2', b3', b4'⟩, -⟩ := h4 _ R1'
    exact ⟨by rw [nf _ R1'], big _ t1' (cg_ne t3' f3 (by simp)) (cg_ne t3' s3 (by simp)), big _ b1' (cg_ne b3' f3 (by simp)) (cg_ne b3' s3 (by simp))⟩
  refine hQ v z1 A1 (ci_keep I F1 j1 (by rw [hS]; show ¬ (ρ (r h 13) = 12 + x.toNat); omega) (fun s => by rw [hS] at s; omega) (fun s => by rw [hS] at s; omega) (fun i hi s => by rw [hS] at s; omega) (fun i hi s => by rw [hS] at s; omega) (fun i hi s => by rw [hS] at s; omega) (fun i hi _ => by rw [nf _ (l3 i hi).1]; exact I.2.2.2.2.2.2.2.2.2.1 i hi)) ?_ (ci_E_of I F1 (fun q hq => by rw [hS] at hq; omega) (fun yy _ => by rw [(F1 h (by rw [hS, a2]; show ¬ (0 = 12 + x.toNat); omega)).1]) (fun i hi => by rw [nf _ (l3 (2 + i) (by omega)).1])) num ⟨by rw [(F1 h (by rw [hS, a2]; show ¬ (0 = 12 + x.toNat); omega)).1], (F1 _ (by rw [hS, d4, a2]; show ¬ (0 = 12 + x.toNat); omega)).2⟩ (Or.inr ⟨⟨hx4, hy4⟩, v1, v2, v3, v4⟩)
  rw [(F1 _ (by rw [hS, c2]; show ¬ (1 = 12 + x.toNat); omega)).1]
/-- class and model: the same numbers -/
noncomputable def nu_R (K : Nat → cw_K) (r : Nat → Nat → Nat) (h : Nat) (z A Am : Nat → Nat → Int) : Prop := ∀ i : Nat, i < 4 → z (cw_g K (r h 9) i) 2 = Am 51 i ∧ (Am 51 i = 1 → 0 < cb_v r z A (r (cw_g K (r h 9) i) 1) ∧ cb_v r z A (r (cw_g K (r h 9) i) 0) = hb_v Am (4231 + 2 * (i : Int)) ∧ cb_v r z A (r (cw_g K (r h 9) i) 1) = hb_v Am (4231 + 2 * (i : Int) + 1))
/-- .. and the same printed -/
noncomputable def nu_T (r : Nat → Nat → Nat) (h : Nat) (z A : Nat → Nat → Int) (zm : Nat → Int) (Am : Nat → Nat → Int) : Prop := z h 2 = zm 57 ∧ ∀ i : Nat, (i : Int) < z h 2 → A (r h 1) i = Am 56 i
theorem nu_R_P (h' : nu_R K r h z A Am) : nc_P K r h z A := fun i hi hk => ((h' i hi).2 ((h' i hi).1.symm.trans hk)).1
theorem nu_R_keep (R : nu_R K r h z A Am) (hS : nc_S K r h z A z' A') (h51 : B 51 = Am 51) (hv : ∀ u : Int, 4231 ≤ u → u < 4239 → hb_v B u = hb_v Am u) : nu_R K r h z' A' B := fun i hi => by
  obtain ⟨s1, s2, s3⟩ := hS i hi
  obtain ⟨q1, q2⟩ := R i hi
  rw [s1, s2, s3, h51, hv _ (by omega) (by omega), hv _ (by omega) (by omega)]
  exact ⟨q1, q2⟩
/-- print: the same answer, the same printed -/
theorem nu_print {y a a' : Int} (hy : hz_rI y) (R : nu_R K r h z A Am) (T : nu_T r h z A zm Am)
    (hx : (¬ (0 ≤ y ∧ y < 4 ∧ z (cw_g K (r h 9) y.toNat) 2 = 1) ∧ a = -1 ∧ z' h 2 = z h 2 ∧ A' (r h 1) = A (r h 1)) ∨ ((0 ≤ y ∧ y < 4 ∧ z (cw_g K (r h 9) y.toNat) 2 = 1) ∧ z' h 2 = a ∧ nu_P (cb_v r z A (r (cw_g K (r h 9) y.toNat) 0)) (cb_v r z A (r (cw_g K (r h 9) y.toNat) 1)) a (A' (r h 1))))
    (hm : (¬ (0 ≤ y ∧ y < 4 ∧ Am 51 y.toNat = 1) ∧ a' = -1 ∧ zm' 57 = zm 57 ∧ B = Am) ∨ ((0 ≤ y ∧ y < 4 ∧ Am 51 y.toNat = 1) ∧ zm' 57 = a' ∧ (0 ≤ a' ∧ a' ≤ 2000) ∧ nu_P (hb_v Am (4231 + 2 * y)) (hb_v Am (4231 + 2 * y + 1)) a' (B 56))) : a = a' ∧ nu_T r h z' A' zm' B := by
  have eq : (0 ≤ y ∧ y < 4 ∧ z (cw_g K (r h 9) y.toNat) 2 = 1) ↔ (0 ≤ y ∧ y < 4 ∧ Am 51 y.toNat = 1) := ⟨fun q => ⟨q.1, q.2.1, (R y.toNat (by omega)).1.symm.trans q.2.2⟩, fun q => ⟨q.1, q.2.1, (R y.toNat (by omega)).1.trans q.2.2⟩⟩
  rcases hx with ⟨n, e1, e2, e3⟩ | ⟨n, e1, e2⟩ <;> rcases hm with ⟨m, f1, f2, f3⟩ | ⟨m, f1, f2, f3⟩
  · refine ⟨by rw [e1, f1], by rw [e2, f2]; exact T.1, ?_⟩
    rw [e2, e3, f3]
    exact T.2
  · exact absurd (eq.mpr m) n
  · exact absurd (eq.mp n) m
  · obtain ⟨q1, q2, q3⟩ := (R y.toNat (by omega)).2 m.2.2
    have ey : ((y.toNat : Nat) : Int) = y := by omega
    rw [ey] at q2 q3
    rw [q2, q3] at e2
    obtain ⟨u1, u2⟩ := nu_P_u e2 f3
    exact ⟨u1, by rw [e1, f1]; exact u1, fun i hi => u2 i (by omega)⟩
/-- compare: the same answer -/
theorem nu_compare {x y a a' : Int} (R : nu_R K r h z A Am)
    (hx : (¬ ((0 ≤ x ∧ x < 4 ∧ z (cw_g K (r h 9) x.toNat) 2 = 1) ∧ (0 ≤ y ∧ y < 4 ∧ z (cw_g K (r h 9) y.toNat) 2 = 1)) ∧ a = -2) ∨ (((0 ≤ x ∧ x < 4 ∧ z (cw_g K (r h 9) x.toNat) 2 = 1) ∧ (0 ≤ y ∧ y < 4 ∧ z (cw_g K (r h 9) y.toNat) 2 = 1)) ∧ nu_C (cb_v r z A (r (cw_g K (r h 9) x.toNat) 0)) (cb_v r z A (r (cw_g K (r h 9) x.toNat) 1)) (cb_v r z A (r (cw_g K (r h 9) y.toNat) 0)) (cb_v r z A (r (cw_g K (r h 9) y.toNat) 1)) a))
    (hm : (¬ ((0 ≤ x ∧ x < 4 ∧ Am 51 x.toNat = 1) ∧ (0 ≤ y ∧ y < 4 ∧ Am 51 y.toNat = 1)) ∧ a' = -2) ∨ (((0 ≤ x ∧ x < 4 ∧ Am 51 x.toNat = 1) ∧ (0 ≤ y ∧ y < 4 ∧ Am 51 y.toNat = 1)) ∧ nu_C (hb_v Am (4231 + 2 * x)) (hb_v Am (4231 + 2 * x + 1)) (hb_v Am (4231 + 2 * y)) (hb_v Am (4231 + 2 * y + 1)) a')) : a = a' := by
  have eq : ∀ u : Int, (0 ≤ u ∧ u < 4 ∧ z (cw_g K (r h 9) u.toNat) 2 = 1) ↔ (0 ≤ u ∧ u < 4 ∧ Am 51 u.toNat = 1) := fun u => ⟨fun q => ⟨q.1, q.2.1, (R u.toNat (by omega)).1.symm.trans q.2.2⟩, fun q => ⟨q.1, q.2.1, (R u.toNat (by omega)).1.trans q.2.2⟩⟩
  rcases hx with ⟨n, e1⟩ | ⟨n, e1⟩ <;> rcases hm with ⟨m, f1⟩ | ⟨m, f1⟩
  · rw [e1, f1]
  · exact absurd ⟨(eq x).mpr m.1, (eq y).mpr m.2⟩ n
  · exact absurd ⟨(eq x).mp n.1, (eq y).mp n.2⟩ m
  · obtain ⟨-, p2, p3⟩ := (R x.toNat (by omega)).2 m.1.2.2
    obtain ⟨-, q2, q3⟩ := (R y.toNat (by omega)).2 m.2.2.2
    have ex : ((x.toNat : Nat) : Int) = x := by omega
    have ey : ((y.toNat : Nat) : Int) = y := by omega
    rw [ex] at p2 p3
    rw [ey] at q2 q3
    rw [p2, p3, q2, q3] at e1
    exact nu_C_u e1 f1
end CI
theorem nu_hbc (a b : Int) : (hb_c a b = 0 ∨ hb_c a b = 1 ∨ hb_c a b = -1) ∧ (hb_c a b = 0 ↔ a = b) ∧ (hb_c a b = 1 ↔ b < a) ∧ (hb_c a b = -1 ↔ a < b) := by
  unfold hb_c
  by_cases c1 : a < b
  · rw [if_pos c1]
    refine ⟨by omega, ?_, ?_, ?_⟩ <;> omega
  · by_cases c2 : a = b
    · rw [if_neg c1, if_pos c2]
      refine ⟨by omega, ?_, ?_, ?_⟩ <;> omega
    · rw [if_neg c1, if_neg c2]
      refine ⟨by omega, ?_, ?_, ?_⟩ <;> omega
theorem wy_compareFractions {z : Nat → Int} {A : Nat → Nat → Int} {x y : Int} {Q : Int → (Nat → Nat → Int) → Prop} (x0 : 0 ≤ x) (x1 : x + 1 < 4243) (y0 : 0 ≤ y) (y1 : y + 1 < 4243) (hok : hb_ok A) (hQ : ∀ r B, hz_rI r → hb_X (fun u => 4243 ≤ u) A B → hb_ok B → nu_C (hb_v A x) (hb_v A (x + 1)) (hb_v A y) (hb_v A (y + 1)) r → Q r B) : wp_compareFractions z A x y Q := by
  have r3 : hb_r 4243 = 270 := by decide
  have r4 : hb_r 4244 = 270 := by decide
  have l1 := hb_len130 hok x0 (by omega)
  have l2 := hb_len130 hok (u := y + 1) (by omega) (by omega)
  refine wq_bigProduct (by decide) (by decide) x0 (by omega) (by omega) (by omega) (by omega) (by omega) (hok _ (by omega) (by omega)) (hok _ (by omega) (by omega)) (by omega) (fun B hXB hWB hvB _ => ?_)
  have hokB := hb_ok_one hok hXB hWB
  have l3 := hb_len130 hokB y0 (by omega)
  have l4 := hb_len130 hokB (u := x + 1) (by omega) (by omega)
  refine wq_bigProduct (by decide) (by decide) y0 (by omega) (by omega) (by omega) (by omega) (by omega) (hokB _ (by omega) (by omega)) (hokB _ (by omega) (by omega)) (by omega) (fun C hXC hWC hvC _ => ?_)
  have hokC := hb_ok_one hokB hXC hWC
  refine wq_bigCompare (by decide) (by decide) (by decide) (by decide) (hokC _ (by decide) (by decide)) hWC ?_
  refine hQ _ C (hb_c_r _ _) (hb_X_trans (hb_X_mono (fun u e => by omega) hXB) (hb_X_mono (fun u e => by omega) hXC)) hokC ?_
  have e3 : hb_v C 4243 = hb_v A x * hb_v A (y + 1) := by rw [hb_X_v hXC (by decide) (by decide) (by decide) hWB, hvB]
  have e4 : hb_v C 4244 = hb_v A y * hb_v A (x + 1) := by
    rw [hvC, hb_X_v hXB y0 (by omega) (by omega) (hok _ y0 (by omega)), hb_X_v hXB (by omega) (by omega) (by omega) (hok _ (by omega) (by omega))]
  rw [e3, e4]
  exact nu_hbc _ _
