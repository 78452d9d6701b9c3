theorem cg_d_sq (q x y : Int) (h : cg_d q * x = cg_d q * y) : x = y := by
  unfold cg_d at h
  split at h <;> omega
section CI
variable {L : List Nat} {K : Nat → cw_K} {r r' : Nat → Nat → Nat} {z A : Nat → Nat → Int} {w : Nat → Nat × Nat} {ρ : Nat → Nat} {S : Nat → Prop} {h g R : Nat} {σ Am : Nat → Nat → Int}
/-- all numbers but one are as they were -/
noncomputable def nc_O (K : Nat → cw_K) (r : Nat → Nat → Nat) (h j : Nat) (z A z' A' : Nat → Nat → Int) : Prop := ∀ i, i < 4 → i ≠ j → z' (cw_g K (r h 9) i) 2 = z (cw_g K (r h 9) i) 2 ∧ cb_v r z' A' (r (cw_g K (r h 9) i) 0) = cb_v r z A (r (cw_g K (r h 9) i) 0) ∧ cb_v r z' A' (r (cw_g K (r h 9) i) 1) = cb_v r z A (r (cw_g K (r h 9) i) 1)
theorem nc_O_F (I : ci_I L K r w ρ z A h) {S9 : Nat → Prop} {j : Nat} {z' A' : Nat → Nat → Int} (F : cF ρ S9 z A z' A') (hS : ∀ i, i < 4 → i ≠ j → ¬ S9 (12 + i)) : nc_O K r h j z A z' A' := fun i hi hne => by
  obtain ⟨-, -, -, -, -, -, -, -, -, -, ⟨l1, l2, l3⟩, -⟩ := id I.2.1
  obtain ⟨k1, k2⟩ := nc_keep I F hi (hS i hi hne)
  exact ⟨by rw [(F _ (by rw [(l3 i hi).2]; exact hS i hi hne)).1], k1, k2⟩
theorem nc_O_trans {j : Nat} {z1 A1 z' A' : Nat → Nat → Int} (h1 : nc_O K r h j z A z1 A1) (h2 : nc_O K r h j z1 A1 z' A') : nc_O K r h j z A z' A' := fun i hi hne => ⟨(h2 i hi hne).1.trans (h1 i hi hne).1, (h2 i hi hne).2.1.trans (h1 i hi hne).2.1, (h2 i hi hne).2.2.trans (h1 i hi hne).2.2⟩
theorem nu_sg {b : Nat} (hk : cb_k K r z A b) (hp : 0 < cb_v r z A b) : z b 2 = 0 := by
  rcases hk.2.1 with c | c
  · exact c
  · unfold cb_v at hp
    rw [if_pos c] at hp
    have := cb_u_nn r z A b
    omega
theorem nu_up {b : Nat} (hs : z b 2 = 0) (hp : 0 < cb_v r z A b) : 0 < cb_u r z A b := by
  unfold cb_v at hp
  rw [if_neg (by omega)] at hp
  exact hp
theorem nu_fit {c u : Int} (hc : 0 < c ∧ c < 4294967296) (u0 : 0 ≤ u) (hu : u ≤ 4294967296 ^ 12) : c * u < 4294967296 ^ 32 := by
  have q1 : c * u ≤ 4294967296 * 4294967296 ^ 12 := Int.mul_le_mul (by omega) hu u0 (by decide)
  have q2 : (4294967296 : Int) * 4294967296 ^ 12 < 4294967296 ^ 32 := by decide
  exact Int.lt_of_le_of_lt q1 q2
set_option maxHeartbeats 8000000 in
theorem wy_c11_judge {y : Int} (I : ci_I L K r w ρ z A h) (hy : hz_rI y) (W9 : z h 14 = 1 → wy_R K r h A Am) (G : z h 14 = 1 → sg_R K r (r h 13) σ z A) (hcm : z h 14 = 1 → 1 ≤ sp_cm σ (σ 0 1).toNat) (hcop : z h 14 = 1 → ∀ t, t < 2 → ∀ i, i < 40 → Nat.gcd (A (r (cw_g K (r h 4) t) 0) i).natAbs (A (r (cw_g K (r h 4) t) 1) i).natAbs = 1) {Q : (Nat → Nat → Int) → (Nat → Nat → Int) → Prop} {X : String → (Nat → Nat → Int) → (Nat → Nat → Int) → Prop} (hQ : ((y = 1 ∨ y = 2) ∧ z h 14 = 1 ∧ ce_G K r h z A Am (y - 1).toNat) → ∀ z' A' : Nat → Nat → Int, ci_I L K r w ρ z' A' h → z' (r (r h 0) 2) 1 = z (r (r h 0) 2) 1 → ci_0 K r ρ h z A z' A' → z' (cw_g K (r h 9) (2 + (y - 1).toNat)) 2 = 1 → (∀ t, t < 2 → t ≠ (y - 1).toNat → z' (cw_g K (r h 9) (2 + t)) 2 = z (cw_g K (r h 9) (2 + t)) 2 ∧ A' (r (cw_g K (r h 7) t) 0) = A (r (cw_g K (r h 7) t) 0)) → rb_B (σ 1 (2 - y).toNat).toNat (σ (12 + (2 - y).toNat)) (fun xx => cg_d (((2 - y).toNat : Nat) : Int) * rv_V σ (2 - y).toNat (A (r (cw_g K (r h 4) (y - 1).toNat) 0)) (A (r (cw_g K (r h 4) (y - 1).toNat) 1)) xx) (A' (r (cw_g K (r h 7) (y - 1).toNat) 0)) → nc_O K r h (2 + (y - 1).toNat) z A z' A' → (z' h 2 = z h 2 ∧ A' (r h 1) = A (r h 1)) → nu_L (cb_v r z' A' (r (cw_g K (r h 9) (2 + (y - 1).toNat)) 0)) (cb_v r z' A' (r (cw_g K (r h 9) (2 + (y - 1).toNat)) 1)) (rv_V σ (2 - y).toNat (A (r (cw_g K (r h 4) (y - 1).toNat) 0)) (A (r (cw_g K (r h 4) (y - 1).toNat) 1)) (A' (r (cw_g K (r h 7) (y - 1).toNat) 0))) (sp_cm σ (σ 0 1).toNat * wy_p (wy_f (A (r (cw_g K (r h 4) (y - 1).toNat) 0)) (A (r (cw_g K (r h 4) (y - 1).toNat) 1)) (σ (12 + (y - 1).toNat)) (fun _ => -1)) (σ 1 (y - 1).toNat).toNat) → Q z' A') (hX1 : (y = 1 ∨ y = 2) → ¬ (z h 14 = 1 ∧ ce_G K r h z A Am (y - 1).toNat) → X "java/lang/IllegalStateException" z A) (hX2 : ¬ (y = 1 ∨ y = 2) → X "java/lang/IllegalArgumentException" z A) : wp_c11_judge L K z r A h y Q X := by
  obtain ⟨hdg, h1, h2, h3, h4, h6, h7, h8, h9⟩ := id I.1
  obtain ⟨⟨a1, a2⟩, -, ⟨c1, c2, c3⟩, -, -, -, ⟨g1, g2, g3⟩, -, ⟨j1, j2, j3⟩, -, ⟨l1, l2, l3⟩, -⟩ := id I.2.1
  have pg := (ci_g I).2
  have gg := I.2.2.2.2.1
  have no : (y = 1 ∨ y = 2) → ¬ (z h 14 = 1 ∧ ce_G K r h z A Am (y - 1).toNat) → wp_c11_judge_36 L K z r A Q X := hX1
  refine wq_c11_isPlayer hy (fun hp => ⟨by decide, fun _ x ex => ⟨a1, by omega, fun c => no hp (fun q => by have := q.1; omega), fun c => ?_⟩, fun q => absurd q (by decide)⟩) (fun np => ⟨by decide, fun q => absurd rfl q, fun _ => hX2 np⟩)
  have hg : z h 14 = 1 := by omega
  have hx : x = 0 ∨ x = 1 := by omega
  have exy : x.toNat = (y - 1).toNat := by omega
  refine wl_c11_isGood I hx hg (W9 hg) (fun G1 => ⟨by decide, fun _ => ?_, fun q => absurd q (by decide)⟩) (fun n1 => ⟨by decide, fun q => absurd rfl q, fun _ => no hp (fun q => n1 (by rw [exy]; exact q.2))⟩)
  have Gx := G hg
  obtain ⟨⟨-, sh, sv⟩, sg⟩ := id Gx
  have W0 := W9 hg
  have C0 := hcop hg
  have hF0 := I.2.2.2.2.2.1 hg
  obtain ⟨xN, hxN⟩ : ∃ xN : Nat, xN = x.toNat := ⟨_, rfl⟩
  obtain ⟨qN, hqN⟩ : ∃ qN : Nat, qN = (2 - y).toNat := ⟨_, rfl⟩
  have x2 : xN < 2 := by omega
  have q2 : qN < 2 := by omega
  have exN : xN = (y - 1).toNat := by omega
  have eqx : 1 - qN = xN := by omega
  have eox : (1 - x).toNat = qN := by omega
  -- own side, other side
  have own : ∀ t, t < 2 → z (cw_g K (r (r h 13) 1) t) 0 = σ 1 t ∧ ∀ i : Nat, (i : Int) < σ 1 t → A (r (cw_g K (r (r h 13) 1) t) 2) i = σ (12 + t) i ∧ A (r (cw_g K (r (r h 13) 1) t) 4) i = σ (16 + t) i ∧ A (r (cw_g K (r (r h 13) 1) t) 6) i = sl_f σ t i ∧ A (r (cw_g K (r (r h 13) 1) t) 7) i = cs_l (sl_f σ t) (σ (16 + t) i) := fun t ht => ⟨(sg t ht).1, fun i hi => ⟨((sg t ht).2 i hi).2.1, ((sg t ht).2 i hi).2.2.2, ((sh.1 t ht).2 i hi).1, ((sh.1 t ht).2 i hi).2⟩⟩
  have hBx : ∀ i, i < (z (cw_g K (r (r h 13) 1) x.toNat) 0).toNat → wb (fun q => A (r (cw_g K (r h 4) x.toNat) 1) (4 * i + q)) (A (r (cw_g K (r (r h 13) 1) x.toNat) 2) i).toNat ≤ 99980001 := by
    intro i hi
    rw [← hxN] at hi ⊢
    obtain ⟨o1, o2⟩ := own xN x2
    obtain ⟨⟨s0, s10⟩, -, s3⟩ := sv.1 xN x2
    have hi9 : (i : Int) < σ 1 xN := by omega
    have mi := (s3 i hi9).1
    rw [(o2 i hi9).1]
    have Wy := I.2.2.2.2.2.2.1 xN x2
    have g9 := G1 i (by rw [← hxN, o1]; exact hi9)
    rw [← hxN, (o2 i hi9).1] at g9
    obtain ⟨Bx, hBx⟩ : ∃ Bx : Int, Bx = wb (fun q => A (r (cw_g K (r h 4) xN) 1) (4 * i + q)) (σ (12 + xN) i).toNat := ⟨_, rfl⟩
    obtain ⟨b1, b2, b3⟩ := wb_spec (b := fun q => A (r (cw_g K (r h 4) xN) 1) (4 * i + q)) (n := (σ (12 + xN) i).toNat) (fun k hk => (W0 xN x2 (4 * i + k) (by omega)).1)
    rw [← hBx] at b1 b2 b3 ⊢
    obtain ⟨tt, htt⟩ : ∃ tt : Nat → Int, tt = fun k => Bx / A (r (cw_g K (r h 4) xN) 1) (4 * i + k) * A (r (cw_g K (r h 4) xN) 0) (4 * i + k) := ⟨_, rfl⟩
    have ttk : ∀ k, k < (σ (12 + xN) i).toNat → tt k * A (r (cw_g K (r h 4) xN) 1) (4 * i + k) = Bx * A (r (cw_g K (r h 4) xN) 0) (4 * i + k) := fun k hk => by
      have dv : A (r (cw_g K (r h 4) xN) 1) (4 * i + k) ∣ Bx := b2 k hk
      have cn := Int.ediv_mul_cancel dv
      rw [htt]
      show Bx / A (r (cw_g K (r h 4) xN) 1) (4 * i + k) * A (r (cw_g K (r h 4) xN) 0) (4 * i + k) * A (r (cw_g K (r h 4) xN) 1) (4 * i + k) = _
      have e1 : Bx / A (r (cw_g K (r h 4) xN) 1) (4 * i + k) * A (r (cw_g K (r h 4) xN) 0) (4 * i + k) * A (r (cw_g K (r h 4) xN) 1) (4 * i + k) = (Bx / A (r (cw_g K (r h 4) xN) 1) (4 * i + k) * A (r (cw_g K (r h 4) xN) 1) (4 * i + k)) * A (r (cw_g K (r h 4) xN) 0) (4 * i + k) := by grind
      rw [e1, cn]
    have sum : ∀ k, k ≤ (σ (12 + xN) i).toNat → wy_t (fun j => Am 49 (40 * xN + (4 * i + j))) (fun j => Am 50 (40 * xN + (4 * i + j))) k * Bx = wy_b (fun j => Am 50 (40 * xN + (4 * i + j))) k * cS tt k := by
      intro k
      induction k with
      | zero => intro _; show (0 : Int) * Bx = 1 * 0; omega
      | succ k ihk =>
        intro hk
        obtain ⟨u1, u2, u3⟩ := W0 xN x2 (4 * i + k) (by omega)
        exact wy_step (ihk (by omega)) (wy_share u1 u3 (ttk k (by omega)))
    have one9 := (wy_one (by omega) (fun k hk => (W0 xN x2 (4 * i + k) (by omega)).2.1) (sum _ (Nat.le_refl _))).mpr g9
    exact lb_int (a := fun k => A (r (cw_g K (r h 4) xN) 0) (4 * i + k)) (b := fun k => A (r (cw_g K (r h 4) xN) 1) (4 * i + k)) (t := tt) (m := (σ (12 + xN) i).toNat) (by omega) (fun k hk => by have q9 := Wy.2 (4 * i + k) (by omega); have q8 := (W0 xN x2 (4 * i + k) (by omega)).1; exact ⟨q8, q9.2.2⟩) (fun k hk => (Wy.2 (4 * i + k) (by omega)).1) (fun k hk => C0 xN x2 (4 * i + k) (by omega)) hBx ttk one9
  have hLx : ∀ a b, a < b → b < (z (cw_g K (r (r h 13) 1) x.toNat) 0).toNat → A (r (cw_g K (r (r h 13) 1) x.toNat) 6) a + A (r (cw_g K (r (r h 13) 1) x.toNat) 2) a ≤ A (r (cw_g K (r (r h 13) 1) x.toNat) 6) b := by
    intro a b hab hb
    rw [← hxN] at hb ⊢
    obtain ⟨o1, o2⟩ := own xN x2
    rw [(o2 a (by omega)).2.2.1, (o2 a (by omega)).1, (o2 b (by omega)).2.2.1]
    exact (sh_L x2 sv).2.2.1 a b hab (by omega)
  refine wz_c11_spreadWay I hx hg hBx hLx (fun z1 A1 I1 zh1 zw1 dd1 F1 vals => ⟨j1, by omega, ?_⟩)
  rw [← hxN] at vals
  have zs1 : ∀ t, t < 2 → z1 (cw_g K (r (r h 13) 1) t) = z (cw_g K (r (r h 13) 1) t) := fun t ht => (F1 _ (by rw [((h2 _ hF0.1).2.1.2.2 t ht).2.2]; show ¬ (_ ∨ _); omega)).1
  have as1 : ∀ t, t < 2 → ∀ k, (k = 2 ∨ k = 4 ∨ k = 6 ∨ k = 7) → A1 (r (cw_g K (r (r h 13) 1) t) k) = A (r (cw_g K (r (r h 13) 1) t) k) := fun t ht k hk => by
    have sd := (h2 _ hF0.1).2.1.2.2 t ht
    obtain ⟨-, e2, -, e4, e6, e7⟩ := h7 _ sd.1
    have rg : ρ (r (cw_g K (r (r h 13) 1) t) k) = ρ (r h 13) := by
      rcases hk with rfl | rfl | rfl | rfl
      · rw [e2.2.2.2, sd.2.2]
      · rw [e4.2.2.2, sd.2.2]
      · rw [e6.2.2.2, sd.2.2]
      · rw [e7.2.2.2, sd.2.2]
    exact (F1 _ (by rw [rg]; show ¬ (_ ∨ _); omega)).2
  have sdq := (sv.1 qN q2).1
  have LQ : rq_L (z1 (cw_g K (r (r h 13) 1) (1 - x).toNat) 0).toNat (z1 (cw_g K (r (r h 13) 1) (1 - x).toNat) 5) (A1 (r (cw_g K (r (r h 13) 1) (1 - x).toNat) 2)) (A1 (r (cw_g K (r (r h 13) 1) (1 - x).toNat) 6)) (A1 (r (cw_g K (r (r h 13) 1) (1 - x).toNat) 4)) (A1 (r (cw_g K (r (r h 13) 1) (1 - x).toNat) 7)) := by
    rw [eox, zs1 qN q2, as1 qN q2 2 (by omega), as1 qN q2 6 (by omega), as1 qN q2 4 (by omega), as1 qN q2 7 (by omega), (own qN q2).1, (sh.1 qN q2).1]
    obtain ⟨o1, o2⟩ := own qN q2
    exact rq_L_congr (sh_L q2 sv) (fun i hi => (o2 i (by omega)).1) (fun i hi => (o2 i (by omega)).2.2.1) (fun i hi => (o2 i (by omega)).2.1) (fun i hi => (o2 i (by omega)).2.2.2)
  have hg1 : z1 h 14 = 1 := by rw [zh1]; exact hg
  have hF1 := I1.2.2.2.2.2.1 hg1
  obtain ⟨P1, P2⟩ := j3 x.toNat (by omega)
  obtain ⟨m1, m2⟩ := g3 x.toNat (by omega)
  obtain ⟨R1, R2⟩ := l3 (2 + x).toNat (by omega)
  have T1 := I1.2.2.2.2.2.2.2.1 x.toNat (by omega)
  have M1 := cm_T_M I1.2.2.1 h3 m1 T1
  refine ⟨g1, by omega, P1, ?_⟩
  refine wy_c6_work (S := fun q => q = 9 + x.toNat) (M := 4294967296 ^ 12) I1.2.2.1 hdg h1 h2 h3 h6 h7 P1 P2 hF1 (by show ¬ ρ (r h 13) = _; omega) (by omega) m1 (by rw [m2]; omega) M1 (Int.le_of_lt (Int.pow_pos (by decide))) cT_M_work LQ (fun z2 A2 J2 F2 best2 worth2 => ⟨l1, by omega, by omega, ?_⟩)
  have wt1 : ∀ i j : Nat, i < 20 → j < 20 → A1 (cw_g K (r (r h 13) 3) i) j = sh_w σ i j (σ 0 1).toNat := fun i j hi hj => by
    have w3 := (h2 _ hF0.1).2.2.2.2 i hi
    rw [(F1 _ (by rw [w3.2.2.2]; show ¬ (_ ∨ _); omega)).2]
    exact sh.2.1 i j hi hj
  have best3 : rb_B (σ 1 qN).toNat (σ (12 + qN)) (fun xx => cg_d (qN : Int) * rv_V σ qN (A (r (cw_g K (r h 4) xN) 0)) (A (r (cw_g K (r h 4) xN) 1)) xx) (A2 (r (cw_g K (r h 7) x.toNat) 0)) ∧ cb_v r z2 A2 (cw_g K (r (cw_g K (r h 7) x.toNat) 2) 0) = rv_V σ qN (A (r (cw_g K (r h 4) xN) 0)) (A (r (cw_g K (r h 4) xN) 1)) (A2 (r (cw_g K (r h 7) x.toNat) 0)) := by
    have e1x : (1 - (1 - x)).toNat = xN := by omega
    rw [eox, e1x, zs1 qN q2, zs1 xN x2, as1 qN q2 2 (by omega), as1 qN q2 6 (by omega), as1 qN q2 4 (by omega), (own qN q2).1, (sh.1 xN x2).1, ← hxN] at best2
    rw [eox, e1x, zs1 qN q2, zs1 xN x2, as1 qN q2 6 (by omega), as1 qN q2 4 (by omega), (own qN q2).1, (sh.1 xN x2).1, ← hxN] at worth2
    obtain ⟨o1, o2⟩ := own qN q2
    obtain ⟨p1', p2'⟩ := own xN x2
    have eqi : (1 - x) = (qN : Int) := by omega
    rw [eqi] at best2 worth2
    rw [← hxN]
    have vv : ∀ xx : Nat → Int, rb_pl (σ 1 qN).toNat (A (r (cw_g K (r (r h 13) 1) qN) 2)) xx → cg_d (qN : Int) * rv_V σ qN (A (r (cw_g K (r h 4) xN) 0)) (A (r (cw_g K (r h 4) xN) 1)) xx = rq_V (fun l => cg_d (qN : Int) * cg_v K r z1 A1 (r h 13) (r (cw_g K (r h 5) xN) 0) (qN : Int) (sl_f σ xN (σ 1 xN).toNat).toNat l) (A (r (cw_g K (r (r h 13) 1) qN) 6)) xx (rq_R (A (r (cw_g K (r (r h 13) 1) qN) 4)) xx (σ 1 qN).toNat) (σ 1 qN).toNat := by
      intro xx hxx
      have hLq := sh_L q2 sv
      have hxx' : rb_pl (σ 1 qN).toNat (σ (12 + qN)) xx := rb_pl_congr (fun i hi => ((o2 i (by omega)).1).symm) hxx
      have hdq := rq_L_d hLq
      show cg_d (qN : Int) * rv_V σ qN (A (r (cw_g K (r h 4) xN) 0)) (A (r (cw_g K (r h 4) xN) 1)) xx = rq_V (fun l => cg_d (qN : Int) * cg_v K r z1 A1 (r h 13) (r (cw_g K (r h 5) xN) 0) (qN : Int) (sl_f σ xN (σ 1 xN).toNat).toNat l) (A (r (cw_g K (r (r h 13) 1) qN) 6)) xx (rq_R (A (r (cw_g K (r (r h 13) 1) qN) 4)) xx (σ 1 qN).toNat) (σ 1 qN).toNat
      rw [rq_V_eq (fun i hi => (o2 i (by omega)).2.2.1) (rq_R_eq hdq (fun i hi => (o2 i (by omega)).2.1))]
      -- the shares at the ends' lines
      obtain ⟨PT, hPT⟩ : ∃ PT : Nat → Int, PT = fun e => wy_p (wy_f (A (r (cw_g K (r h 4) xN) 0)) (A (r (cw_g K (r h 4) xN) 1)) (σ (12 + xN)) (cw_tau (σ (16 + xN)) 10 (σ (22 + xN) e))) (σ 1 xN).toNat := ⟨_, rfl⟩
      have sx := (sv.1 xN x2).1
      have lnx := sh_L x2 sv
      have le9 : ∀ t, t < 2 → ∀ e : Nat, (e : Int) < σ 0 1 → 0 ≤ cs_l (sl_f σ t) (σ (22 + t) e) ∧ cs_l (sl_f σ t) (σ (22 + t) e) < sl_f σ t (σ 1 t).toNat := fun t ht e he => by
        have lt9 := sh_L ht sv
        have st := (sv.1 t ht).1
        unfold cs_l
        rcases sv.2.2 t ht e he with v | ⟨v1, v2, v3⟩
        · rw [if_pos v]
          have := lt9.1
          omega
        · rw [if_neg (by omega)]
          have q9 := lt9.2.1 (σ (22 + t) e / 512).toNat (by omega)
          have m0 := Int.emod_nonneg (σ (22 + t) e) (show (512 : Int) ≠ 0 by decide)
          omega
      have tot : ∀ t, t < 2 → sl_f σ t (σ 1 t).toNat ≤ 20 := fun t ht => by have := (sv.1 t ht).2.1; unfold sl_f; omega
      have pv : ∀ e : Nat, (e : Int) < σ 0 1 → cb_v r z1 A1 (cw_g K (r (cw_g K (r h 5) xN) 0) (cs_l (sl_f σ xN) (σ (22 + xN) e)).toNat) = PT e := fun e he => by
        have v := sv.2.2 xN x2 e he
        have q9 := vals (σ (22 + xN) e) (by
          rcases v with v | ⟨v1, v2, v3⟩
          · exact Or.inl v
          · exact Or.inr ⟨v1, by rw [p1']; exact v2, by rw [(p2' _ (by omega)).1]; exact v3⟩)
        have el : cs_l (A (r (cw_g K (r (r h 13) 1) xN) 6)) (σ (22 + xN) e) = cs_l (sl_f σ xN) (σ (22 + xN) e) := cs_l_congr (by
          rcases v with v | ⟨v1, v2, v3⟩
          · exact Or.inl v
          · exact Or.inr (p2' _ (by omega)).2.2.1)
        rw [el, p1'] at q9
        rw [q9, hPT]
        have hdx : rq_d (σ 1 xN).toNat (σ (16 + xN)) := rq_L_d lnx
        refine wy_p_congr (fun i hi => ?_)
        have et : cw_tau (A (r (cw_g K (r (r h 13) 1) xN) 4)) 10 (σ (22 + xN) e) = cw_tau (σ (16 + xN)) 10 (σ (22 + xN) e) := cw_tau_congr hdx (fun k hk => (p2' k (by omega)).2.1) 10 _ (by
          rcases v with v | ⟨v1, v2, v3⟩
          · exact Or.inl v
          · exact Or.inr ⟨v1, by omega⟩)
        unfold wy_f
        rw [et, (p2' i (by omega)).1]
      have gains : ∀ l : Nat, (l : Int) < sl_f σ qN (σ 1 qN).toNat → cg_d (qN : Int) * cg_v K r z1 A1 (r h 13) (r (cw_g K (r h 5) xN) 0) (qN : Int) (sl_f σ xN (σ 1 xN).toNat).toNat l = cS (fun e => if l = (cs_l (sl_f σ qN) (σ (22 + qN) e)).toNat then cg_d (qN : Int) * (sp_we σ e * PT e) else 0) (σ 0 1).toNat := by
        intro l hl
        have tq := tot qN q2
        have tx := tot xN x2
        have t0x := lnx.1
        have e1 : cg_v K r z1 A1 (r h 13) (r (cw_g K (r h 5) xN) 0) (qN : Int) (sl_f σ xN (σ 1 xN).toNat).toNat l = cS (fun j => (cS (fun e => if (l : Int) = cs_l (sl_f σ qN) (σ (22 + qN) e) ∧ (j : Int) = cs_l (sl_f σ xN) (σ (22 + xN) e) then sp_we σ e else 0) (σ 0 1).toNat) * cb_v r z1 A1 (cw_g K (r (cw_g K (r h 5) xN) 0) j)) (sl_f σ xN (σ 1 xN).toNat).toNat := cS_congr (fun j hj => by
          show cg_w K r A1 (r h 13) (qN : Int) l j * cb_v r z1 A1 (cw_g K (r (cw_g K (r h 5) xN) 0) j) = _
          congr 1
          unfold cg_w
          have e2 : qN = 0 ∨ qN = 1 := by omega
          rcases e2 with e2 | e2
          · have e3 : xN = 1 := by omega
            rw [if_pos (by omega), wt1 l j (by omega) (by omega), e2, e3]
            rfl
          · have e3 : xN = 0 := by omega
            rw [if_neg (by omega), wt1 j l (by omega) (by omega), e2, e3]
            refine cS_congr (fun e _ => ?_)
            show (if (j : Int) = cs_l (sl_f σ 0) (σ 22 e) ∧ (l : Int) = cs_l (sl_f σ 1) (σ 23 e) then sp_we σ e else 0) = (if (l : Int) = cs_l (sl_f σ 1) (σ 23 e) ∧ (j : Int) = cs_l (sl_f σ 0) (σ 22 e) then sp_we σ e else 0)
            by_cases c : (j : Int) = cs_l (sl_f σ 0) (σ 22 e) ∧ (l : Int) = cs_l (sl_f σ 1) (σ 23 e)
            · rw [if_pos c, if_pos ⟨c.2, c.1⟩]
            · rw [if_neg c, if_neg (fun q => c ⟨q.2, q.1⟩)])
        rw [e1, rv_gain (fun e he => by have := le9 xN x2 e (by omega); omega), Int.mul_comm, ← cS_mulr]
        refine cS_congr (fun e he => ?_)
        have le := le9 qN q2 e (by omega)
        show (if (l : Int) = cs_l (sl_f σ qN) (σ (22 + qN) e) then sp_we σ e * cb_v r z1 A1 (cw_g K (r (cw_g K (r h 5) xN) 0) (cs_l (sl_f σ xN) (σ (22 + xN) e)).toNat) else 0) * cg_d (qN : Int) = (if l = (cs_l (sl_f σ qN) (σ (22 + qN) e)).toNat then cg_d (qN : Int) * (sp_we σ e * PT e) else 0)
        rw [pv e (by omega)]
        by_cases c : (l : Int) = cs_l (sl_f σ qN) (σ (22 + qN) e)
        · rw [if_pos c, if_pos (by omega), Int.mul_comm]
        · rw [if_neg c, if_neg (by omega), Int.zero_mul]
      rw [rq_V_congr hLq hxx' gains]
      have ends := rq_ends (n := (σ 1 qN).toNat) (E := (σ 0 1).toNat) (de := σ (22 + qN)) (le := fun e => cs_l (sl_f σ qN) (σ (22 + qN) e)) (w := fun e => cg_d (qN : Int) * (sp_we σ e * PT e)) (R := rq_R (σ (16 + qN)) xx (σ 1 qN).toNat) (t := fun e => rv_t (σ (16 + qN)) (σ 1 qN).toNat xx (σ (22 + qN) e)) hLq hxx' (fun e he => by
        rcases sv.2.2 qN q2 e (by omega) with v | ⟨v1, v2, v3⟩
        · exact Or.inl ⟨v, by show cs_l _ _ = 0; unfold cs_l; rw [if_pos v]⟩
        · exact Or.inr ⟨v1, by omega, v3, by show cs_l _ _ = _; unfold cs_l; rw [if_neg (by omega)]⟩) (fun e _ => rv_t_iff _ _ _ _)
      refine Eq.trans ?_ ends.symm
      unfold rv_V
      rw [eqx, Int.mul_comm, ← cS_mulr]
      refine cS_congr (fun e _ => ?_)
      show (if rv_t (σ (16 + qN)) (σ 1 qN).toNat xx (σ (22 + qN) e) = true then sp_we σ e * wy_p (wy_f (A (r (cw_g K (r h 4) xN) 0)) (A (r (cw_g K (r h 4) xN) 1)) (σ (12 + xN)) (cw_tau (σ (16 + xN)) 10 (σ (22 + xN) e))) (σ 1 xN).toNat else 0) * cg_d (qN : Int) = (if rv_t (σ (16 + qN)) (σ 1 qN).toNat xx (σ (22 + qN) e) = true then cg_d (qN : Int) * (sp_we σ e * PT e) else 0)
      rw [hPT]
      by_cases c : rv_t (σ (16 + qN)) (σ 1 qN).toNat xx (σ (22 + qN) e) = true
      · rw [if_pos c, if_pos c, Int.mul_comm]
      · rw [if_neg c, if_neg c, Int.zero_mul]
    refine ⟨rb_B_congr (fun i hi => ((o2 i (by omega)).1).symm) (fun xx hxx => vv xx hxx) best2, ?_⟩
    have v9 := vv _ best2.1
    exact cg_d_sq (qN : Int) _ _ (worth2.trans v9.symm)
  obtain ⟨⟨y1, y2, y3, y4⟩, -⟩ := h3 _ m1
  obtain ⟨-, -, ⟨n1, n2, n3, n4⟩, -, -⟩ := h6 _ P1
  refine wq_c6_worth h6 P1 ⟨by omega, m1, y1, by omega, hF1.1, R1, ?_⟩
  show wp_c4_put L K z2 r A2 (cw_g K (r h 9) (2 + x).toNat) (cw_g K (r (cw_g K (r h 7) x.toNat) 2) 0) (cw_g K (r (cw_g K (r h 5) x.toNat) 0) 0) (z2 (r h 13) 2) _
  have lg := (J2.1.2 _ (n4 0 (by omega)).1).1
  have lp := (J2.1.2 _ (y4 0 (by omega)).1).1
  have ln := (n4 0 (by omega)).2.1
  have lq := (y4 0 (by omega)).2.1
  have zg2 : z2 (r h 13) 2 = sp_cm σ (σ 0 1).toNat := by
    rw [(F2 _ (by show ¬ ρ (r h 13) = _; omega)).1, (F1 _ (by show ¬ (_ ∨ _); omega)).1]
    exact sh.2.2
  have cmr : 0 < sp_cm σ (σ 0 1).toNat ∧ sp_cm σ (σ 0 1).toNat < 4294967296 := by
    have q9 := hF0.2.2.2.2
    rw [sh.2.2] at q9
    have q8 := hcm hg
    omega
  have vp : cb_v r z2 A2 (cw_g K (r (cw_g K (r h 5) x.toNat) 0) 0) = wy_p (wy_f (A (r (cw_g K (r h 4) xN) 0)) (A (r (cw_g K (r h 4) xN) 1)) (σ (12 + xN)) (fun _ => -1)) (σ 1 xN).toNat := by
    rw [(cF_big h1 F2 (y4 0 (by omega)).1 (by rw [(y4 0 (by omega)).2.2.2, m2]; show ¬ _ = _; omega)).2.1, ← hxN]
    have q9 := vals (-1) (Or.inl rfl)
    rw [cw_tau_no] at q9
    obtain ⟨p1', p2'⟩ := own xN x2
    have e9 : (cs_l (A (r (cw_g K (r (r h 13) 1) xN) 6)) (-1)).toNat = 0 := by unfold cs_l; rw [if_pos rfl]; rfl
    rw [e9, p1'] at q9
    rw [q9]
    have sx := (sv.1 xN x2).1
    refine wy_p_congr (fun i hi => ?_)
    unfold wy_f
    rw [if_pos rfl, if_pos rfl, (p2' i (by omega)).1]
  have vpp : 0 < wy_p (wy_f (A (r (cw_g K (r h 4) xN) 0)) (A (r (cw_g K (r h 4) xN) 1)) (σ (12 + xN)) (fun _ => -1)) (σ 1 xN).toNat := wy_p_pos (fun i hi => by
    have sx := (sv.1 xN x2).1
    have mi := ((sv.1 xN x2).2.2 i (by omega)).1
    unfold wy_f
    rw [if_pos rfl]
    have q9 := (wb_spec (b := fun q => A (r (cw_g K (r h 4) xN) 1) (4 * i + q)) (n := (σ (12 + xN) i).toNat) (fun k hk => (W0 xN x2 (4 * i + k) (by omega)).1)).1
    omega)
  have sg0 : z2 (cw_g K (r (cw_g K (r h 5) x.toNat) 0) 0) 2 = 0 := nu_sg (J2.1.2 _ (y4 0 (by omega)).1) (by rw [vp]; exact vpp)
  have pp0 : 0 < cb_u r z2 A2 (cw_g K (r (cw_g K (r h 5) x.toNat) 0) 0) := nu_up sg0 (by rw [vp]; exact vpp)
  have fit : z2 (r h 13) 2 * cb_u r z2 A2 (cw_g K (r (cw_g K (r h 5) x.toNat) 0) 0) < 4294967296 ^ 32 := by
    rw [zg2, (cF_big h1 F2 (y4 0 (by omega)).1 (by rw [(y4 0 (by omega)).2.2.2, m2]; show ¬ _ = _; omega)).1]
    exact nu_fit cmr (cb_u_nn _ _ _ _) (M1 0 (by omega))
  refine wz_c4_put (S := fun q => q = 12 + (2 + x).toNat) J2 h1 h4 R1 R2 (n4 0 (by omega)).1 (y4 0 (by omega)).1 (by rw [(n4 0 (by omega)).2.2.2, P2, R2]; omega) (by rw [(y4 0 (by omega)).2.2.2, m2, R2]; omega) (by omega) (by omega) (by rw [zg2]; exact cmr) sg0 pp0 fit (fun z3 A3 J3 F3 kn nl => ?_)
  have F : cF ρ (fun q => q = 9 + x.toNat ∨ q = 12 + (2 + x).toNat) z1 A1 z3 A3 := cF_trans (cF_mono F2 (fun q hq => Or.inl hq)) (cF_mono F3 (fun q hq => Or.inr hq))
  refine hQ ⟨hp, hg, by rw [← exy]; exact G1⟩ z3 A3 (ci_keep I1 F J3 (by show ¬ (_ ∨ _); omega) (fun q => by omega) (fun q => by omega) (fun i hi q => by omega) (fun i hi q => by omega) (fun i hi q => by omega) (fun i hi q => ?_)) (by rw [(F _ (by rw [c2]; omega)).1, zw1]) ?_ ?_ (fun t ht hne => ?_) ?_ ?_ ?_ ?_
  rotate_left
  · obtain ⟨-, -, -, -, -, ⟨fa, fb, fc⟩, -⟩ := id I.2.1
    refine ⟨ci_D_trans dd1.1 ⟨cF_mono F (fun q hq => by omega), fun y9 _ => by rw [(F h (by rw [a2]; omega)).1]⟩, fun i9 hi9 => ?_⟩
    obtain ⟨u1, u2⟩ := fc i9 hi9
    obtain ⟨v1, v2, -⟩ := h9 _ u1
    exact ⟨((F _ (by rw [v1.2.2.2, u2]; show ¬ (_ ∨ _); omega)).2).trans (dd1.2 i9 hi9).1, ((F _ (by rw [v2.2.2.2, u2]; show ¬ (_ ∨ _); omega)).2).trans (dd1.2 i9 hi9).2.1⟩
  · rw [← exN, hxN, show 2 + x.toNat = (2 + x).toNat by omega]
    exact kn
  · obtain ⟨P1', P2'⟩ := j3 t ht
    refine ⟨?_, ?_⟩
    · rw [(F _ (by rw [(l3 (2 + t) (by omega)).2]; show ¬ (_ ∨ _); omega)).1]
      exact (dd1.2 t ht).2.2.1
    · rw [(F _ (by rw [(h6 _ P1').1.2.2.2, P2']; show ¬ (_ ∨ _); omega)).2]
      exact (dd1.2 t ht).2.2.2
  · have a3 : A3 (r (cw_g K (r h 7) x.toNat) 0) = A2 (r (cw_g K (r h 7) x.toNat) 0) := (F3 _ (by rw [(h6 _ P1).1.2.2.2, P2]; show ¬ _ = _; omega)).2
    rw [← exN, ← hqN]
    rw [← hxN] at a3 best3
    rw [a3]
    exact best3.1
  · exact nc_O_trans (nc_O_F I F1 (fun i hi hne => by show ¬ (_ ∨ _); omega)) (nc_O_F I1 F (fun i hi hne => by show ¬ (_ ∨ _); omega))
  · obtain ⟨-, -, -, ⟨dd1', dd2', dd3', dd4'⟩, -⟩ := id I.2.1
    exact ⟨by rw [(F h (by rw [a2]; show ¬ (_ ∨ _); omega)).1, zh1], ((F _ (by rw [dd4', a2]; show ¬ (_ ∨ _); omega)).2).trans (F1 _ (by rw [dd4', a2]; show ¬ (_ ∨ _); omega)).2⟩
  · have a3 : A3 (r (cw_g K (r h 7) x.toNat) 0) = A2 (r (cw_g K (r h 7) x.toNat) 0) := (F3 _ (by rw [(h6 _ P1).1.2.2.2, P2]; show ¬ _ = _; omega)).2
    rw [vp, zg2, best3.2] at nl
    rw [← exN, ← hqN, show 2 + xN = (2 + x).toNat by omega]
    rw [← hxN] at a3 nl
    rw [a3]
    exact nl
  have : i = (2 + x).toNat := by omega
  rw [this]
  exact ⟨Or.inr kn, fun _ => hg1⟩
end CI
