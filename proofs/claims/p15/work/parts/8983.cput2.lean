theorem nu_fin {T B q x y g : Nat} (eT : T = x * 2 ^ q) (eB : B = y * 2 ^ q) (gx : g ∣ x) (gy : g ∣ y) (hg : 0 < g) : (x / g) * B = T * (y / g) := by
  obtain ⟨x', rfl⟩ := gx
  obtain ⟨y', rfl⟩ := gy
  rw [Nat.mul_div_cancel_left _ hg, Nat.mul_div_cancel_left _ hg, eT, eB, Nat.mul_assoc g y', Nat.mul_left_comm x' g, Nat.mul_assoc g x', Nat.mul_assoc g]
  rw [Nat.mul_comm y' (2 ^ q), ← Nat.mul_assoc x', Nat.mul_assoc x']
/-- least terms, with their sign -/
theorem nu_sign {t b u d : Nat} {s : Int} {vt vb vn vd : Int} (hs : s = 0 ∨ s = 1) (et : vt = if s = 1 then -(t : Int) else (t : Int)) (eb : vb = (b : Int)) (en : vn = if s = 1 then -(u : Int) else (u : Int)) (ed : vd = (d : Int)) (hb : 0 < b) (hc : t * d = u * b) (hg : Nat.gcd t b = 1) : nu_L vt vb vn vd := by
  have hc' : (t : Int) * (d : Int) = (u : Int) * (b : Int) := by rw [← Int.natCast_mul, ← Int.natCast_mul, hc]
  refine ⟨by omega, ?_, ?_⟩
  · rw [et, eb, en, ed]
    rcases hs with c | c
    · rw [c, if_neg (by decide), if_neg (by decide)]
      exact hc'
    · rw [c, if_pos rfl, if_pos rfl, Int.neg_mul, Int.neg_mul, hc']
  · have e1 : vt.natAbs = t := by
      rw [et]
      split <;> omega
    have e2 : vb.natAbs = b := by rw [eb]; omega
    rw [e1, e2]
    exact hg
section CR
variable {L : List Nat} {K : Nat → cw_K} {r : Nat → Nat → Nat} {z A : Nat → Nat → Int} {w : Nat → Nat × Nat} {ρ : Nat → Nat} {S : Nat → Prop} {R : Nat}
theorem nu_len {b : Nat} (hS : cb_all L K r z A) (hO : cw_O L K 0 b) (hp : ¬ cb_u r z A b = 0) : 0 < z b 1 := by
  have e0 := cb_u0 (hS.2 _ hO) hS.1 hO
  have := (hS.2 _ hO).1
  omega
theorem nu_tN (r : Nat → Nat → Nat) (z A : Nat → Nat → Int) (b : Nat) : (((cb_u r z A b).toNat : Nat) : Int) = cb_u r z A b := Int.toNat_of_nonneg (cb_u_nn _ _ _ _)
theorem nu_tP {b : Nat} (h : ¬ cb_u r z A b = 0) : 0 < (cb_u r z A b).toNat := by
  have := cb_u_nn r z A b
  omega
theorem nu_t0 {a q : Nat} {u : Int} (h : a = u.toNat * 2 ^ q) (ha : 0 < a) : ¬ u = 0 := fun e => by
  rw [e] at h
  have : (0 : Int).toNat * 2 ^ q = 0 := by simp
  omega
theorem nu_nn {n : Nat} {u : Int} (h : u = (n : Int)) (hn : 0 < n) : ¬ u = 0 := by omega
theorem cb_uv {b : Nat} {z' A' : Nat → Nat → Int} (e1 : z' b = z b) (e2 : A' (r b 0) = A (r b 0)) : cb_u r z' A' b = cb_u r z A b ∧ cb_v r z' A' b = cb_v r z A b := by
  unfold cb_v cb_u
  rw [e1, e2]
  exact ⟨rfl, rfl⟩
set_option maxHeartbeats 4000000 in
theorem wz_c4_put {a c : Nat} {y : Int} (h : cJ L K r z A) (h1 : cg_1 L K r w ρ) (h4 : cg_4 L K r w ρ) (hO : cw_O L K 4 R) (hR : S (ρ R)) (ha : cw_O L K 0 a) (hc : cw_O L K 0 c) (ra : ρ a ≠ ρ R) (rc : ρ c ≠ ρ R) (la : z a 1 ≤ 32) (lc : z c 1 ≤ 32) (hy : 0 < y ∧ y < 4294967296) (hc2 : z c 2 = 0) (hcp : 0 < cb_u r z A c) (hfit : y * cb_u r z A c < 4294967296 ^ 32) {Q : (Nat → Nat → Int) → (Nat → Nat → Int) → Prop}
    (hQ : ∀ z' A' : Nat → Nat → Int, cJ L K r z' A' → cF ρ S z A z' A' → z' R 2 = 1 → nu_L (cb_v r z' A' (r R 0)) (cb_v r z' A' (r R 1)) (cb_v r z A a) (y * cb_v r z A c) → Q z' A') : wp_c4_put L K z r A R a c y Q := by
  obtain ⟨⟨t1, t2, t3, t4⟩, ⟨b1, b2, b3, b4⟩, ⟨f1, f2, f3, f4⟩, ⟨s1, s2, s3, s4⟩, ⟨d1, d2, d3⟩⟩ := h4 R hO
  obtain ⟨o1, o2, o3, o4⟩ := h1.2 _ d1
  have tS : S (ρ (r R 0)) := by rw [t4]; exact hR
  have bS : S (ρ (r R 1)) := by rw [b4]; exact hR
  have oS : S (ρ (r (r R 5) 0)) := by rw [o4, d3]; exact hR
  have tb : r R 0 ≠ r R 1 := cg_ne t3 b3 (by simp)
  have tf : r R 0 ≠ r R 3 := cg_ne t3 f3 (by simp)
  have ts : r R 0 ≠ r R 4 := cg_ne t3 s3 (by simp)
  have bf : r R 1 ≠ r R 3 := cg_ne b3 f3 (by simp)
  have bs : r R 1 ≠ r R 4 := cg_ne b3 s3 (by simp)
  have nRd : R ≠ r R 5 := cw_O_ne hO d1 (by decide)
  have ot : r (r R 5) 0 ≠ r R 0 := cg_ne o3 t3 (by simp; intro e; exact absurd e.symm nRd)
  have ob : r (r R 5) 0 ≠ r R 1 := cg_ne o3 b3 (by simp)
  have of : r R 3 ≠ r (r R 5) 0 := cg_ne f3 o3 (by simp)
  have last : ∀ z5 A5 : Nat → Nat → Int, cJ L K r z5 A5 → cF ρ S z A z5 A5 → nu_L (cb_v r z5 A5 (r R 0)) (cb_v r z5 A5 (r R 1)) (cb_v r z A a) (y * cb_v r z A c) → wp_c4_put_86 L K z5 r A5 R Q := by
    intro z5 A5 j5 F5 n5
    refine ⟨hO, fun z6 e6 => ?_⟩
    rw [e6]
    refine hQ _ A5 ⟨cb_all_z j5.1 (fun q hq => cw_s_a (cw_O_ne hq hO (by decide))), j5.2⟩ (cF_trans F5 (cF_s hR)) (cw_s_same _ _ _ _) ?_
    rw [(cb_uv (r := r) (A' := A5) (A := A5) (cw_s_a (cw_O_ne t1 hO (by decide))) rfl).2, (cb_uv (r := r) (A' := A5) (A := A5) (cw_s_a (cw_O_ne b1 hO (by decide))) rfl).2]
    exact n5
  have vc : cb_v r z A c = cb_u r z A c := by
    unfold cb_v
    rw [hc2, if_neg (by decide)]
  have cneb : c ≠ r R 1 := fun e => rc (by rw [e]; exact b4)
  have cne : c ≠ r R 0 := fun e => rc (by rw [e]; exact t4)
  have sa := (h.1.2 _ ha).2.1
  refine ⟨hO, t1, wq_c0_copy h.1 t1 ha (by omega) (fun z1 A1 k1 hY1 hu1 hv1 hl1 hs1 => ⟨b1, ?_⟩)⟩
  have c1 := cb_k_other h.1.1 t1 hc cne hY1
  refine wq_c0_copy k1 b1 hc (by rw [hY1.1 c cne]; omega) (fun z2 A2 k2 hY2 hu2 _ hl2 hs2 => ?_)
  have c2 := cb_k_other k1.1 b1 t1 tb hY2
  refine wq_c0_scale k2 b1 (fun z3 A3 k3 hY3 hl3 hsc => ?_)
  have c3 := cb_k_other k2.1 b1 t1 tb hY3
  have ub2 : cb_u r z2 A2 (r R 1) = cb_u r z A c := by rw [hu2, c1.2.1]
  have hsc' := hsc (by omega) (by omega) (by rw [ub2, b2]; exact hfit)
  have ub3 : cb_u r z3 A3 (r R 1) = y * cb_u r z A c := by rw [hsc'.1, ub2]
  have pb3 : 0 < cb_u r z3 A3 (r R 1) := by rw [ub3]; exact Int.mul_pos hy.1 hcp
  have nb3 : ¬ cb_u r z3 A3 (r R 1) = 0 := fun e => Int.lt_irrefl 0 (by rw [e] at pb3; exact pb3)
  have lb3 : 0 < z3 (r R 1) 1 := nu_len k3 b1 nb3
  have sb3 : z3 (r R 1) 2 = 0 := by rw [hsc'.2 lb3, hs2, hY1.1 c cne]; exact hc2
  have ut3 : cb_u r z3 A3 (r R 0) = cb_u r z A a := by rw [c3.2.1, c2.2.1, hu1]
  have st3 : z3 (r R 0) = z1 (r R 0) := by rw [hY3.1 _ tb, hY2.1 _ tb]
  have j3 : cJ L K r z3 A3 := cJ_Y (cJ_Y (cJ_Y h t1 k1 hY1) b1 k2 hY2) b1 k3 hY3
  have F3 : cF ρ S z A z3 A3 := cF_trans (cF_trans (cF_Y h1 t1 tS hY1) (cF_Y h1 b1 bS hY2)) (cF_Y h1 b1 bS hY3)
  have kt := (k3.2 _ t1).1
  have rt : hz_rI (z3 (r R 0) 1) := by
    clear hfit hsc hsc' ub3 pb3
    omega
  clear hfit hsc hsc' la lc
  refine ⟨rt, fun q => ?_, fun q => ?_⟩
  · have e0 := cb_u0 (k3.2 _ t1) k3.1 t1
    refine wz_c4_shareTwos j3 h1 h4 hO hR (fun q2 => q (e0.mpr q2)) nb3 (fun z4 A4 j4 F4 hq4 od4 st4 sb4 => ?_)
    obtain ⟨qq, et4, eb4⟩ := hq4
    have nt3 : 0 < (cb_u r z3 A3 (r R 0)).toNat := nu_tP (fun q2 => q (e0.mpr q2))
    have nb3' : 0 < (cb_u r z3 A3 (r R 1)).toNat := nu_tP nb3
    have n4t : ¬ cb_u r z4 A4 (r R 0) = 0 := nu_t0 et4 nt3
    have n4b : ¬ cb_u r z4 A4 (r R 1) = 0 := nu_t0 eb4 nb3'
    refine wz_c4_findOddDivisor j4 h1 h4 hO hR n4t n4b (fun z5 A5 j5 F5 z5o A5o hg5 g5 l5 => ⟨d1, ?_⟩)
    obtain ⟨F, G, s, t, eF, oF, eG, oG, eg⟩ := hg5
    obtain ⟨g, hgg⟩ : ∃ g, g = (cb_u r z5 A5 (r R 3)).toNat := ⟨_, rfl⟩
    have low := nu_low (T := (cb_u r z3 A3 (r R 0)).toNat) (B := (cb_u r z3 A3 (r R 1)).toNat) (g := g) nt3 nb3' et4 eb4 od4 eF eG oF oG (by rw [hgg]; exact eg)
    obtain ⟨gx, gy, hco, gp⟩ := low
    have eg5 : cb_u r z5 A5 (r R 3) = (g : Int) := by rw [hgg]; exact (nu_tN r z5 A5 (r R 3)).symm
    have l5' : z5 (r R 3) 1 ≤ (cw_n K (r (r (r R 5) 0) 0) : Int) := by rw [o2]; exact l5
    have dt := cb_ne j4.1.1 f1 t1 tf
    have dt' := cb_ne j4.1.1 s1 t1 ts
    have db := cb_ne j4.1.1 f1 b1 bf
    have db' := cb_ne j4.1.1 s1 b1 bs
    have w5t := cb_uv (r := r) (z := z4) (A := A4) (z5o _ tf ts) (A5o _ dt dt')
    have w5b := cb_uv (r := r) (z := z4) (A := A4) (z5o _ bf bs) (A5o _ db db')
    refine wq_c1_prepare j5.1 d1 o1 f1 of l5' (nu_nn eg5 gp) g5 (fun z6 A6 k6 hz6 _ hA6 _ hP6 => ?_)
    have j6 : cJ L K r z6 A6 := ⟨k6, cr_A_Y (z' := z6) j5.2 o1 k6.1 hA6⟩
    have F6 : cF ρ S z5 A5 z6 A6 := fun x hx => ⟨hz6 x (fun e => hx (by rw [e]; exact oS)) (fun e => hx (by rw [e, d3]; exact hR)), hA6 x (fun e => hx (by rw [e, h1.1 _ o1]; exact oS))⟩
    have e6t : z6 (r R 0) = z5 (r R 0) := hz6 _ ot.symm (cw_O_ne t1 d1 (by decide))
    have e6b : z6 (r R 1) = z5 (r R 1) := hz6 _ ob.symm (cw_O_ne b1 d1 (by decide))
    have w6t := cb_uv (r := r) (z := z5) (A := A5) e6t (hA6 _ (cb_ne j5.1.1 o1 t1 ot.symm))
    have w6b := cb_uv (r := r) (z := z5) (A := A5) e6b (hA6 _ (cb_ne j5.1.1 o1 b1 ob.symm))
    rw [eg5] at hP6
    refine wq_c1_divide k6 d1 o1 t1 ot hP6 (fun z7 A7 k7 hY7 _ hd7 => ?_)
    have hP7 : cd_P r z7 A7 (r R 5) (g : Int) := by
      unfold cd_P at hP6 ⊢
      rw [hY7.1 _ (cw_O_ne d1 t1 (by decide)), hY7.1 _ ot, (cb_k_other k6.1 t1 o1 ot hY7).2.1]
      exact hP6
    have c7 := cb_k_other k6.1 t1 b1 tb.symm hY7
    refine wq_c1_divide k7 d1 o1 b1 ob hP7 (fun z8 A8 k8 hY8 _ hd8 => ?_)
    have c8 := cb_k_other k7.1 b1 t1 tb hY8
    have nt6 : cb_u r z6 A6 (r R 0) = (((cb_u r z4 A4 (r R 0)).toNat : Nat) : Int) := by
      rw [w6t.1, w5t.1]
      exact (nu_tN r z4 A4 (r R 0)).symm
    have nb7 : cb_u r z7 A7 (r R 1) = (((cb_u r z4 A4 (r R 1)).toNat : Nat) : Int) := by
      rw [c7.2.1, w6b.1, w5b.1]
      exact (nu_tN r z4 A4 (r R 1)).symm
    rw [nt6] at hd7
    rw [nb7] at hd8
    have hd7' := hd7 (Int.natCast_dvd_natCast.mpr gx)
    have hd8' := hd8 (Int.natCast_dvd_natCast.mpr gy)
    rw [← Int.natCast_ediv] at hd7' hd8'
    have xp : 0 < (cb_u r z4 A4 (r R 0)).toNat := nu_tP n4t
    have yp : 0 < (cb_u r z4 A4 (r R 1)).toNat := nu_tP n4b
    have qx : 0 < (cb_u r z4 A4 (r R 0)).toNat / g := Nat.div_pos (Nat.le_of_dvd xp gx) gp
    have qy : 0 < (cb_u r z4 A4 (r R 1)).toNat / g := Nat.div_pos (Nat.le_of_dvd yp gy) gp
    have l7 : 0 < z7 (r R 0) 1 := nu_len k7 t1 (nu_nn hd7'.1 qx)
    have l8 : 0 < z8 (r R 1) 1 := nu_len k8 b1 (nu_nn hd8'.1 qy)
    have s7 : z8 (r R 0) 2 = z a 2 := by rw [hY8.1 _ tb, hd7'.2 l7, e6t, z5o _ tf ts, st4, st3, hs1]
    have s8 : z8 (r R 1) 2 = 0 := by rw [hd8'.2 l8, hY7.1 _ tb.symm, e6b, z5o _ bf bs, sb4]; exact sb3
    refine last z8 A8 (cJ_Y (cJ_Y j6 t1 k7 hY7) b1 k8 hY8) (cF_trans (cF_trans (cF_trans (cF_trans (cF_trans F3 F4) F5) F6) (cF_Y h1 t1 tS hY7)) (cF_Y h1 b1 bS hY8)) ?_
    refine nu_sign (t := (cb_u r z4 A4 (r R 0)).toNat / g) (b := (cb_u r z4 A4 (r R 1)).toNat / g) (u := (cb_u r z3 A3 (r R 0)).toNat) (d := (cb_u r z3 A3 (r R 1)).toNat) sa ?_ ?_ ?_ ?_ qy (nu_fin et4 eb4 gx gy gp) hco
    · have e8 : cb_u r z8 A8 (r R 0) = (((cb_u r z4 A4 (r R 0)).toNat / g : Nat) : Int) := by rw [c8.2.1]; exact hd7'.1
      unfold cb_v
      rw [s7, e8]
    · unfold cb_v
      rw [s8, if_neg (by decide)]
      exact hd8'.1
    · have e9 : (((cb_u r z3 A3 (r R 0)).toNat : Nat) : Int) = cb_u r z A a := by rw [nu_tN]; exact ut3
      unfold cb_v
      rw [e9]
    · rw [vc, ← ub3]
      exact (nu_tN r z3 A3 (r R 1)).symm
  · refine wq_c0_put k3 b1 (by decide) (fun z4 A4 k4 hY4 hv4 _ => ?_)
    refine last z4 A4 (cJ_Y j3 b1 k4 hY4) (cF_trans F3 (cF_Y h1 b1 bS hY4)) ?_
    have e0 := cb_u0 (k3.2 _ t1) k3.1 t1
    have u0 : cb_u r z A a = 0 := by rw [← ut3]; exact e0.mp q
    have v0 : cb_v r z A a = 0 := by
      unfold cb_v
      rw [u0]
      split <;> rfl
    have ut4 : cb_u r z4 A4 (r R 0) = 0 := by rw [(cb_k_other k3.1 b1 t1 tb hY4).2.1, ut3]; exact u0
    have vt4 : cb_v r z4 A4 (r R 0) = 0 := by
      unfold cb_v
      rw [ut4]
      split <;> rfl
    rw [hv4, v0, vt4]
    exact ⟨by decide, by rw [Int.zero_mul, Int.zero_mul], by decide⟩
theorem wz_c4_order {T : Nat} (h : cJ L K r z A) (h1 : cg_1 L K r w ρ) (h4 : cg_4 L K r w ρ) (hO : cw_O L K 4 R) (hT : cw_O L K 4 T) (hR : S (ρ R)) {Q : Int → (Nat → Nat → Int) → (Nat → Nat → Int) → Prop} (hQ : ∀ (x : Int) (z' A' : Nat → Nat → Int), cJ L K r z' A' → cF ρ S z A z' A' → (x = 0 ∨ x = 1 ∨ x = -1) → (x = 0 ↔ cb_v r z A (r R 0) * cb_v r z A (r T 1) = cb_v r z A (r T 0) * cb_v r z A (r R 1)) → (x = 1 ↔ cb_v r z A (r T 0) * cb_v r z A (r R 1) < cb_v r z A (r R 0) * cb_v r z A (r T 1)) → (x = -1 ↔ cb_v r z A (r R 0) * cb_v r z A (r T 1) < cb_v r z A (r T 0) * cb_v r z A (r R 1)) → (∀ a, a ≠ r R 3 → a ≠ r R 4 → z' a = z a) → (∀ a, a ≠ r (r R 3) 0 → a ≠ r (r R 4) 0 → A' a = A a) → Q x z' A') : wp_c4_order L K z r A R T Q := by
  obtain ⟨⟨t1, t2, t3, t4⟩, ⟨b1, b2, b3, b4⟩, ⟨f1, f2, f3, f4⟩, ⟨s1, s2, s3, s4⟩, -⟩ := h4 R hO
  obtain ⟨⟨t1', t2', t3', t4'⟩, ⟨b1', b2', b3', b4'⟩, -, -, -⟩ := h4 T hT
  have kt := (h.1.2 _ t1).1
  have kb' := (h.1.2 _ b1').1
  have fs : r R 3 ≠ r R 4 := cg_ne f3 s3 (by simp)
  refine ⟨hO, hT, f1, wq_c0_putProduct h.1 f1 t1 b1' (cg_ne t3 f3 (by simp)) (cg_ne b3' f3 (by simp)) (by omega) (fun z1 A1 k1 hY1 hv1 _ => ⟨s1, ?_⟩)⟩
  have kt' := (k1.2 _ t1').1
  have kb := (k1.2 _ b1).1
  refine wq_c0_putProduct k1 s1 t1' b1 (cg_ne t3' s3 (by simp)) (cg_ne b3 s3 (by simp)) (by omega) (fun z2 A2 k2 hY2 hv2 _ => ?_)
  have e1 : cb_v r z2 A2 (r R 3) = cb_v r z A (r R 0) * cb_v r z A (r T 1) := by rw [(cb_k_other k1.1 s1 f1 fs hY2).2.2, hv1]
  have e2 : cb_v r z2 A2 (r R 4) = cb_v r z A (r T 0) * cb_v r z A (r R 1) := by
    rw [hv2, (cb_k_other h.1.1 f1 t1' (cg_ne t3' f3 (by simp)) hY1).2.2, (cb_k_other h.1.1 f1 b1 (cg_ne b3 f3 (by simp)) hY1).2.2]
  refine wq_c0_order k2 f1 s1 (fun x x1 x2 x3 x4 => ?_)
  rw [e1, e2] at x2 x3 x4
  exact hQ x z2 A2 (cJ_Y (cJ_Y h f1 k1 hY1) s1 k2 hY2) (cF_trans (cF_Y h1 f1 (by rw [f4]; exact hR) hY1) (cF_Y h1 s1 (by rw [s4]; exact hR) hY2)) x1 x2 x3 x4 (fun a n1 n2 => by rw [hY2.1 a n2, hY1.1 a n1]) (fun a n1 n2 => by rw [hY2.2 a n2, hY1.2 a n1])
end CR
