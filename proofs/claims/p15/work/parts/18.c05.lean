theorem cq_least {T B F f ga gb x y u v : Int} (hT : 0 ≤ T ∧ T ≤ B) (hF : 0 ≤ F ∧ F ≤ 9999) (hf : 1 ≤ f) (ga0 : 0 < ga) (gb0 : 0 < gb) (ex : x * ga = T) (ey : y * gb = F) (eu : u * gb = B) (ev : v * ga = f) : x * y ≤ 9999 * (u * v) := by
  have h1 : T * F ≤ B * 9999 := Int.mul_le_mul hT.2 hF.2 hF.1 (by omega)
  have h2 : B * 9999 * 1 ≤ B * 9999 * f := Int.mul_le_mul_of_nonneg_left hf (by omega)
  have h3 : T * F = x * y * (ga * gb) := by rw [← ex, ← ey]; grind
  have h4 : B * 9999 * f = 9999 * (u * v) * (ga * gb) := by rw [← eu, ← ev]; grind
  have h5 : x * y * (ga * gb) ≤ 9999 * (u * v) * (ga * gb) := by rw [← h3, ← h4]; omega
  exact Int.le_of_mul_le_mul_right h5 (Int.mul_pos ga0 gb0)
section CL
variable {L : List Nat} {K : Nat → cw_K} {r : Nat → Nat → Nat} {z A : Nat → Nat → Int} {w : Nat → Nat × Nat} {ρ : Nat → Nat} {z0 A0 : Nat → Nat → Int} {R : Nat} {P : Nat → Int → Prop} {O : Nat → Nat → Prop} {E : Int} {c : Nat → Int} {n : Nat}
/-- the word that is looked at begins behind place p of the text c, n -/
noncomputable def cq_w (L : List Nat) (K : Nat → cw_K) (r : Nat → Nat → Nat) (c : Nat → Int) (n : Nat) (z A : Nat → Nat → Int) (R p : Nat) : Prop := cl_T L K r z A (r R 2) ∧ (z (r R 2) 1).toNat = n ∧ A (r (r R 2) 0) = c ∧ ∃ b q : Nat, z (r R 2) 3 = (b : Int) ∧ z (r R 2) 5 = (q : Int) ∧ cl_R c n p (z (r R 2) 2) b q ∧ hz_rI (z (r R 2) 2) ∧ R ≠ r R 2 ∧ z R 1 = 0 ∧ z R 0 = -1
theorem cq_w_keep {p : Nat} {z' A' : Nat → Nat → Int} (h : cq_w L K r c n z A R p) (hz : z' (r R 2) = z (r R 2)) (hA : A' (r (r R 2) 0) = A (r (r R 2) 0)) (hR : z' R 0 = z R 0 ∧ z' R 1 = z R 1) : cq_w L K r c n z' A' R p := by
  unfold cq_w cl_T at h ⊢
  rw [hz, hA, hR.1, hR.2]
  exact h
theorem cq_w_b {p : Nat} (h : cq_w L K r c n z A R p) : (0 ≤ z (r R 2) 3 ∧ z (r R 2) 3 ≤ 4000) ∧ hz_rI (z (r R 2) 2) ∧ (0 ≤ z (r R 2) 4 ∧ z (r R 2) 4 ≤ 9999) := by
  obtain ⟨T, hn, hc, b, q, w3, w5, hR, hk, -⟩ := h
  have t4 := T.2.2.2.1
  have := hR.2.1
  exact ⟨by omega, hk, T.2.2.2.2.1⟩
theorem cq_adv {p : Nat} {d e : Int} {st : List Int} (h : cq_w L K r c n z A R p) (a : cq_A c n d st e p) (hd : ¬ d = 10 ∨ ¬ st = []) {Q : (Nat → Nat → Int) → Prop} (hQ : ∀ (z' : Nat → Nat → Int) (d' : Int) (st' : List Int) (e' : Int) (p' : Nat), (∀ a, a ≠ (r R 2) → z' a = z a) → cq_w L K r c n z' A R p' → cq_s d st e (z (r R 2) 2) d' st' e' → cq_A c n d' st' e' p' → Q z') : wp_c10_advance L K z r A (r R 2) Q := by
  obtain ⟨T, hn, hc, b, q, w3, w5, hR, hk, hf⟩ := h
  rcases cq_inv a hR with ⟨_, a1, a2⟩ | ⟨k0, d', st', e', s, a'⟩
  · rcases hd with hd | hd
    · exact absurd a1 hd
    · exact absurd a2 hd
  · have t4 := T.2.2.2.1
    have g5 := hR.2.2.2.2
    have qn : (q : Int) ≤ z (r R 2) 1 := by
      rcases g5 with g | g | g
      · omega
      · omega
      · omega
    refine wq_c10_advance T w5 qn (fun z' b' q' o T' l1 l3 l5 hR' hk' => hQ z' d' st' e' q o ⟨T', by rw [l1]; exact hn, hc, b', q', l3, l5, ?_, hk', by rw [o R hf.1]; exact hf⟩ s a')
    rw [hn, hc] at hR'
    exact hR'
theorem wq_c5_goThroughFraction {v e : Int} {st : List Int} {p : Nat} (X : cq_X L K r w ρ R) (F : cF ρ (cq_r r ρ R) z0 A0 z A) (J : cJ L K r z A) (h : cq_w L K r c n z A R p) (a : cq_A c n 5 st e p) (hv : v = 0 ∨ v = 1) {Q : Int → (Nat → Nat → Int) → Prop} (h1 : ∀ (z' : Nat → Nat → Int) (p' : Nat), (∀ a, a ≠ (r R 2) → a ≠ R → z' a = z a) → cq_w L K r c n z' A R p' → cq_A c n 9 st e p' → (1 ≤ z' R 8 ∧ z' R 8 ≤ 9999) → (-9999 ≤ z' R 7 ∧ z' R 7 ≤ 9999) → (v = 1 → 0 ≤ z' R 7 ∧ z' R 7 ≤ z' R 8) → Q 1 z') (h0 : ∀ z', cq_E L K r ρ R z0 A0 z' A → Q 0 z') : wp_c5_goThroughFraction L K z r A R v Q := by
  have wr := (cq_o3 X).2.2.1
  have main : ∀ (z1 : Nat → Nat → Int) (p1 : Nat) (x2 x4 x6 : Int), (∀ a, a ≠ (r R 2) → a ≠ R → z1 a = z a) → cq_w L K r c n z1 A R p1 → cq_A c n 9 st e p1 → hz_rI x2 → (-9999 ≤ x4 ∧ x4 ≤ 9999) → (0 ≤ x6 ∧ x6 ≤ 9999) → wp_c5_goThroughFraction_109 L K z1 r A R v x2 x4 x6 Q := by
    intro z1 p1 x2 x4 x6 o hw ha hx2 hx4 hx6
    have no : wp_c5_goThroughFraction_135 L K z1 r A R x2 Q := ⟨X.1, wq_c5_refuse X (cF_trans F (cq_fr X o)) (cq_fJ X J o) hw.1 (by decide) hx2 (fun z' e => ⟨Or.inl rfl, h0 z' e⟩)⟩
    have yes : ¬ x6 = 0 → (v = 1 → 0 < x4 ∧ x4 ≤ x6) → wp_c5_goThroughFraction_142 L K z1 r A R x4 x6 Q := by
      intro n0 hv1
      refine wq_c11_gcdD (by omega) (by omega) (fun g g0 g1 ga gb => wq_c11_quotient (by omega) ⟨g0, g1⟩ (fun q q1 q2 q3 q4 => ⟨X.1, fun z2 e2 => wq_c11_quotient (by omega) ⟨g0, g1⟩ (fun b b1 b2 b3 b4 z3 e3 => ?_)⟩))
      have gle : g ≤ x6 := Int.le_of_dvd (by omega) gb
      have gp : 0 < g := by
        apply Classical.byContradiction
        intro hg
        obtain ⟨k, hk⟩ := gb
        rw [show g = 0 by omega, Int.zero_mul] at hk
        exact n0 hk
      have eb : b = x6 / g := by rw [b3 gp, Int.tdiv_eq_ediv_of_nonneg hx6.1]
      have b1 := b1 hx6.1
      have bp : 1 ≤ b := by rw [eb]; exact Int.le_ediv_of_mul_le gp (by omega)
      have f7 : z3 R 7 = q := by rw [e3, cw_s_k (by decide), e2, cw_s_same]
      have f8 : z3 R 8 = b := by rw [e3, cw_s_same]
      refine h1 z3 p1 (fun a' a1' a2' => by rw [e3, cw_s_a a2', e2, cw_s_a a2']; exact o a' a1' a2') (cq_w_keep hw (by rw [e3, cw_s_a wr, e2, cw_s_a wr]) rfl ⟨by rw [e3, cw_s_k (by decide), e2, cw_s_k (by decide)], by rw [e3, cw_s_k (by decide), e2, cw_s_k (by decide)]⟩) ha (by rw [f8]; omega) ?_ (fun hv' => ?_)
      · rw [f7]
        by_cases s : 0 ≤ x4
        · have := q1 s; omega
        · have := q2 (by omega); omega
      · have hx := hv1 hv'
        have := q1 (by omega)
        rw [f7, f8, eb]
        refine ⟨this.1, ?_⟩
        rw [q3 gp, Int.tdiv_eq_ediv_of_nonneg (by omega)]
        exact Int.ediv_le_ediv gp hx.2
    exact ⟨by omega, fun _ => no, fun n0 => ⟨by omega, fun c => yes n0 (by omega), fun c => ⟨by omega, fun _ => no, fun c2 => ⟨by omega, by omega, fun c3 => yes n0 (by omega), fun _ => no⟩⟩⟩⟩
  have at61 : ∀ (z1 : Nat → Nat → Int) (p1 : Nat) (d x2 x4 : Int), (∀ a, a ≠ (r R 2) → a ≠ R → z1 a = z a) → cq_w L K r c n z1 A R p1 → cq_A c n d st e p1 → ((d = 5 ∧ ¬ z1 (r R 2) 2 = 45) ∨ d = 6) → hz_rI x2 → (-9999 ≤ x4 ∧ x4 ≤ 9999) → wp_c5_goThroughFraction_61 L K z1 r A R v x2 x4 Q := by
    intro z1 p1 d x2 x4 o hw ha hd hx2 hx4
    refine ⟨X.1, X.2.1, cq_adv hw ha (Or.inl (by omega)) (fun z2 d2 st2 e2 p2 o2 hw2 s2 a2 => ?_)⟩
    have s7 : st2 = st ∧ e2 = e ∧ d2 = 7 := by
      rcases hd with ⟨hd, hk⟩ | hd
      · subst hd
        obtain ⟨q1, q2, q3⟩ := cq_5 s2
        exact ⟨q1, q2, by omega⟩
      · subst hd
        obtain ⟨q1, q2, q3, q4⟩ := cq_6 s2
        exact ⟨q1, q2, q4⟩
    rw [s7.1, s7.2.1, s7.2.2] at a2
    have o12 : ∀ a, a ≠ (r R 2) → a ≠ R → z2 a = z a := fun a a1 a2 => by rw [o2 a a1]; exact o a a1 a2
    obtain ⟨T2, hn2, hc2, b2, q2, w3, w5, hR2, hk2, -⟩ := id hw2
    refine ⟨hk2, fun c47 => main z2 p2 x2 x4 1 o12 hw2 ?_ hx2 hx4 (by omega), fun c47 => ?_⟩
    · rcases cq_inv a2 hR2 with ⟨_, q, _⟩ | ⟨k0, d', st', e', s, a'⟩
      · omega
      · rcases cq_7 s with ⟨q, _⟩ | ⟨_, s'⟩
        · exact absurd q c47
        · exact cq_A_step hR2 k0 s' a'
    · refine cq_adv hw2 a2 (Or.inl (by decide)) (fun z3 d3 st3 e3 p3 o3 hw3 s3 a3 => ?_)
      have s8 : st3 = st ∧ e3 = e ∧ d3 = 8 := by
        rcases cq_7 s3 with ⟨_, q1, q2, q3⟩ | ⟨q, _⟩
        · exact ⟨q1, q2, q3⟩
        · exact absurd c47 q
      rw [s8.1, s8.2.1, s8.2.2] at a3
      have t5 := (cq_w_b hw3).2.2
      refine ⟨by omega, fun x6 ex6 => cq_adv hw3 a3 (Or.inl (by decide)) (fun z4 d4 st4 e4 p4 o4 hw4 s4 a4 => ?_)⟩
      obtain ⟨q1, q2, q3, q4⟩ := cq_8 s4
      rw [q1, q2, q4] at a4
      exact main z4 p4 x2 x4 x6 (fun a a1 a2 => by rw [o4 a a1, o3 a a1]; exact o12 a a1 a2) hw4 a4 hx2 hx4 (by omega)
  have at37 : ∀ (z1 : Nat → Nat → Int) (p1 : Nat) (d x2 x3 : Int), (∀ a, a ≠ (r R 2) → a ≠ R → z1 a = z a) → cq_w L K r c n z1 A R p1 → cq_A c n d st e p1 → ((d = 5 ∧ ¬ z1 (r R 2) 2 = 45 ∧ x3 = 0) ∨ (d = 6 ∧ x3 = 1)) → hz_rI x2 → wp_c5_goThroughFraction_37 L K z1 r A R v x2 x3 Q := by
    intro z1 p1 d x2 x3 o hw ha hd hx2
    have t5 := (cq_w_b hw).2.2
    exact ⟨by omega, fun c => ⟨X.1, X.2.1, by omega, at61 z1 p1 d x2 _ o hw ha (by omega) hx2 (by omega)⟩, fun c => ⟨X.1, X.2.1, by omega, at61 z1 p1 d x2 _ o hw ha (by omega) hx2 (by omega)⟩⟩
  have hb := cq_w_b h
  refine ⟨X.1, X.2.1, fun x2 ex2 => ⟨hb.2.1, fun q => ⟨by decide, fun _ => at37 z p 5 x2 0 (fun _ _ _ => rfl) h a (Or.inl ⟨rfl, q, rfl⟩) (by omega), fun q => absurd rfl q⟩, fun q => ⟨by decide, fun q9 => absurd q9 (by decide), fun _ => ⟨X.1, X.2.1, cq_adv h a (Or.inl (by decide)) (fun z2 d2 st2 e2 p2 o2 hw2 s2 a2 => ?_)⟩⟩⟩⟩
  obtain ⟨q1, q2, q3⟩ := cq_5 s2
  rw [q1, q2, show d2 = 6 by omega] at a2
  exact at37 z2 p2 6 x2 1 (fun a a1 _ => o2 a a1) hw2 a2 (Or.inr ⟨rfl, rfl⟩) (by omega)
theorem wq_c5_goThroughEnd {y1 y3 y5 y6 e : Int} {st : List Int} {p : Nat} (X : cq_X L K r w ρ R) (D : cq_D L K r ρ R z0 A0 P O E z A) (N : cq_n r A R E 1) (h : cq_w L K r c n z A R p) (a : cq_A c n 1 st e p) (hk : z (r R 2) 2 = 91) (hy : 0 ≤ y1 ∧ y1 ≤ y3 ∧ y3 ≤ 10000000000000) (h5 : cq_d r z A (cw_g K (r (r R 3) 1) 0) (P 0) y5) (h6 : cq_d r z A (cw_g K (r (r R 3) 1) 1) (P 1) y6) {Q : Int → (Nat → Nat → Int) → (Nat → Nat → Int) → Prop} (h1 : ∀ (z' A' : Nat → Nat → Int) (p' : Nat), cq_D L K r ρ R z0 A0 P O (E + 1) z' A' → cq_n r A' R (E + 1) 0 → cq_M K r z A z' A' R → cq_w L K r c n z' A' R p' → cq_A c n 10 st 0 p' → Q 1 z' A') (h0 : ∀ z' A', cq_E L K r ρ R z0 A0 z' A' → Q 0 z' A') : wp_c5_goThroughEnd L K z r A R y1 y3 y5 y6 Q := by
  obtain ⟨x1, x2, x3, x4, g4, ⟨k9, l9, w9, v9⟩, ⟨k10, l10, w10, v10⟩, ⟨k11, l11, w11, v11⟩, ⟨k12, l12, w12, v12⟩, x10, x11, x12⟩ := id X
  obtain ⟨c1, c2, c3, c4⟩ := cq_wc X
  have o := cq_o3 X
  have hb := cq_w_b h
  refine ⟨by omega, fun y3l => ⟨x1, x2, cq_adv h a (Or.inl (by decide)) (fun z1 d1 st1 e1 p1 o1 hw1 s1 a1 => ?_)⟩, fun _ => ⟨x1, x2, wq_c5_refuse X D.1 D.2.1 h.1 (by decide) (by omega) (fun z' e => ⟨Or.inl rfl, h0 z' A e⟩)⟩⟩
  obtain ⟨q1, q2⟩ := cq_1 s1
  rw [q1, show d1 = 5 by omega, show e1 = 1 by omega] at a1
  have of1 : ∀ a, a ≠ (r R 2) → a ≠ R → z1 a = z a := fun a a1 _ => o1 a a1
  have D1 := cq_D_z X D of1
  refine wq_c5_goThroughFraction X D1.1 D1.2.1 hw1 a1 (Or.inl rfl) (fun z2 p2 o2 hw2 a2 fb ft _ => ⟨by decide, fun _ => ?_, fun q => absurd q (by decide)⟩) (fun z2 e => ⟨by decide, fun q => absurd rfl q, fun _ => h0 z2 A e⟩)
  refine cq_adv hw2 a2 (Or.inl (by decide)) (fun z3 d3 st3 e3 p3 o3 hw3 s3 a3 => ?_)
  obtain ⟨q3, q4, q5⟩ := cq_9 s3
  rw [q3, q4, show d3 = 10 by omega] at a3
  have zR : z3 R = z2 R := o3 R (Ne.symm o.2.2.1)
  have of3 : ∀ a, a ≠ (r R 2) → a ≠ R → z3 a = z a := fun a a1 a2 => by rw [o3 a a1, o2 a a1 a2]; exact of1 a a1 a2
  obtain ⟨f1, f2, f3, f4, f5⟩ := cq_D_z X D of3
  obtain ⟨n1, n2, n3, n4, n5, n6⟩ := N
  have n1' : A (r (r R 3) 0) (1 : Int).toNat = E := n1
  rw [← zR] at fb ft
  refine ⟨x4, c1, by omega, by omega, fun x ex => ?_⟩
  have ex' : x = E := by omega
  clear ex
  subst ex'
  refine wq_c11_gcdD (by omega) (by omega) (fun ga ga0 ga1 gat gaf => wq_c11_gcdD (by omega) (by omega) (fun gb gb0 gb1 gbf gbb => wq_c11_quotient (by omega) ⟨ga0, ga1⟩ (fun u1 u1a _ u1c u1d => wq_c11_quotient (by omega) ⟨gb0, gb1⟩ (fun u2 u2a u2b u2c u2d v vr ve => ⟨k9, by omega, fun A1 e1 => wq_c11_quotient (by omega) ⟨gb0, gb1⟩ (fun u3 u3a _ u3c u3d => wq_c11_quotient (by omega) ⟨ga0, ga1⟩ (fun u4 u4a _ u4c u4d u ur ue => ⟨k10, by omega, fun A2 e2 => ⟨k11, by omega, fun A3 e3 => ⟨k12, by omega, fun A4 e4 => ⟨by omega, by omega, fun A5 e5 => ?_⟩⟩⟩⟩))⟩))))
  have u1a := u1a hy.1
  have u3a := u3a (by omega)
  have u4a := u4a (by omega)
  have u2s : (u2.natAbs : Int) ≤ 9999 := by
    by_cases s : 0 ≤ z3 R 7
    · have := u2a s; omega
    · have := u2b (by omega); omega
  have mp1 : ((u1 * u2).natAbs : Int) = u1 * (u2.natAbs : Int) := by rw [Int.natAbs_mul, Int.natCast_mul, show (u1.natAbs : Int) = u1 by omega]
  have mp2 : u1 * (u2.natAbs : Int) ≤ 1000000000 * 9999 := Int.mul_le_mul (by omega) u2s (by omega) (by omega)
  have mp3 : u3 * u4 ≤ 1000000000 * 9999 := Int.mul_le_mul (by omega) (by omega) (by omega) (by omega)
  have mp4 : 0 ≤ u3 * u4 := Int.mul_nonneg (by omega) (by omega)
  have ev : v = u1 * u2 := by
    generalize u1 * u2 = t at *
    generalize u1 * (u2.natAbs : Int) = t2 at *
    omega
  have eu : u = u3 * u4 := by
    generalize u3 * u4 = t at *
    omega
  have le : (v.natAbs : Int) ≤ 9999 * u := by
    rw [ev, eu, mp1]
    by_cases hg : gb = 0
    · rw [u2d hg]
      simp only [Int.natAbs_zero, Int.natCast_zero, Int.mul_zero]
      omega
    · have gap : 0 < ga := by
        apply Classical.byContradiction
        intro hg
        obtain ⟨k, hk⟩ := gaf
        rw [show ga = 0 by omega, Int.zero_mul] at hk
        omega
      have gbp : 0 < gb := by omega
      have r1 : u1 * ga = y1 := by rw [u1c gap]; exact Int.tdiv_mul_cancel gat
      have r2 : u2 * gb = z3 R 7 := by rw [u2c gbp]; exact Int.tdiv_mul_cancel gbf
      have r3 : u3 * gb = y3 := by rw [u3c gbp]; exact Int.tdiv_mul_cancel gbb
      have r4 : u4 * ga = z3 R 8 := by rw [u4c gap]; exact Int.tdiv_mul_cancel gaf
      have r5 : (u2.natAbs : Int) * gb = ((z3 R 7).natAbs : Int) := by rw [← r2, Int.natAbs_mul, Int.natCast_mul, show (gb.natAbs : Int) = gb by omega]
      exact cq_least ⟨hy.1, hy.2.1⟩ ⟨by omega, by omega⟩ fb.1 gap gbp r1 r5 r3 r4
  have a910 : r R 9 ≠ r R 10 := cg_ne w9 w10 (by simp)
  have a911 : r R 9 ≠ r R 11 := cg_ne w9 w11 (by simp)
  have a912 : r R 9 ≠ r R 12 := cg_ne w9 w12 (by simp)
  have a1011 : r R 10 ≠ r R 11 := cg_ne w10 w11 (by simp)
  have a1012 : r R 10 ≠ r R 12 := cg_ne w10 w12 (by simp)
  have a1112 : r R 11 ≠ r R 12 := cg_ne w11 w12 (by simp)
  have ag : ∀ j, (j = 9 ∨ j = 10 ∨ j = 11 ∨ j = 12) → r (r R 3) 0 ≠ r R j := fun j hj => cg_ne c3 (cq_wr X hj).1 (fun q => o.2.1 q.1)
  have oth : ∀ y, y ≠ r R 9 → y ≠ r R 10 → y ≠ r R 11 → y ≠ r R 12 → y ≠ r (r R 3) 0 → A5 y = A y := fun y y1 y2 y3 y4 y5 => by rw [e5, hz_s_a y5, e4, hz_s_a y4, e3, hz_s_a y3, e2, hz_s_a y2, e1, hz_s_a y1]
  have m9 : ∀ j : Nat, j ≠ x.toNat → A5 (r R 9) j = A (r R 9) j := fun j hj => by rw [e5, hz_s_a (Ne.symm (ag 9 (by omega))), e4, hz_s_a a912, e3, hz_s_a a911, e2, hz_s_a a910, e1, hz_s_i hj]
  have m9x : A5 (r R 9) x.toNat = v := by rw [e5, hz_s_a (Ne.symm (ag 9 (by omega))), e4, hz_s_a a912, e3, hz_s_a a911, e2, hz_s_a a910, e1, hz_s_same]
  have m10 : ∀ j : Nat, j ≠ x.toNat → A5 (r R 10) j = A (r R 10) j := fun j hj => by rw [e5, hz_s_a (Ne.symm (ag 10 (by omega))), e4, hz_s_a a1012, e3, hz_s_a a1011, e2, hz_s_i hj, e1, hz_s_a (Ne.symm a910)]
  have m10x : A5 (r R 10) x.toNat = u := by rw [e5, hz_s_a (Ne.symm (ag 10 (by omega))), e4, hz_s_a a1012, e3, hz_s_a a1011, e2, hz_s_same]
  have m11 : ∀ j : Nat, j ≠ x.toNat → A5 (r R 11) j = A (r R 11) j := fun j hj => by rw [e5, hz_s_a (Ne.symm (ag 11 (by omega))), e4, hz_s_a a1112, e3, hz_s_i hj, e2, hz_s_a (Ne.symm a1011), e1, hz_s_a (Ne.symm a911)]
  have m11x : A5 (r R 11) x.toNat = y5 := by rw [e5, hz_s_a (Ne.symm (ag 11 (by omega))), e4, hz_s_a a1112, e3, hz_s_same]
  have m12 : ∀ j : Nat, j ≠ x.toNat → A5 (r R 12) j = A (r R 12) j := fun j hj => by rw [e5, hz_s_a (Ne.symm (ag 12 (by omega))), e4, hz_s_i hj, e3, hz_s_a (Ne.symm a1112), e2, hz_s_a (Ne.symm a1012), e1, hz_s_a (Ne.symm a912)]
  have m12x : A5 (r R 12) x.toNat = y6 := by rw [e5, hz_s_a (Ne.symm (ag 12 (by omega))), e4, hz_s_same]
  have mg : ∀ j : Nat, j ≠ 1 → A5 (r (r R 3) 0) j = A (r (r R 3) 0) j := fun j hj => by rw [e5, hz_s_i (show j ≠ (1 : Int).toNat from hj), e4, hz_s_a (ag 12 (by omega)), e3, hz_s_a (ag 11 (by omega)), e2, hz_s_a (ag 10 (by omega)), e1, hz_s_a (ag 9 (by omega))]
  have mg4 : A4 (r (r R 3) 0) = A (r (r R 3) 0) := by rw [e4, hz_s_a (ag 12 (by omega)), e3, hz_s_a (ag 11 (by omega)), e2, hz_s_a (ag 10 (by omega)), e1, hz_s_a (ag 9 (by omega))]
  have mg1 : A5 (r (r R 3) 0) 1 = x + 1 := by
    have q := hz_s_same (A := A4) (r (r R 3) 0) 1 (A4 (r (r R 3) 0) (1 : Int).toNat + 1)
    rw [← e5, mg4, n1'] at q
    exact q
  have sd : ∀ t k, t < 2 → (k = 1 ∨ k = 2 ∨ k = 3 ∨ k = 4 ∨ k = 6 ∨ k = 7) → A5 (r (cw_g K (r (r R 3) 1) t) k) = A (r (cw_g K (r (r R 3) 1) t) k) := by
    intro t k ht hk
    have ap := cq_apart X ht hk
    exact oth _ (Ne.symm (ap.1 9 (by omega))) (Ne.symm (ap.1 10 (by omega))) (Ne.symm (ap.1 11 (by omega))) (Ne.symm (ap.1 12 (by omega))) (Ne.symm ap.2.2.1)
  have d5r : hz_rI y5 := by
    have := (D.2.2.1 0 (by omega)).1
    rcases h5 with h | ⟨h, h', -⟩
    · omega
    · omega
  have d6r : hz_rI y6 := by
    have := (D.2.2.1 1 (by omega)).1
    rcases h6 with h | ⟨h, h', -⟩
    · omega
    · omega
  have j1 : cJ L K r z3 A1 := by rw [e1]; exact cJ_st f2 k9 (cg_dig x10 w9 x1 (by decide)) ⟨by omega, fun _ => vr, by omega, by omega⟩
  have j2 : cJ L K r z3 A2 := by rw [e2]; exact cJ_st j1 k10 (cg_dig x10 w10 x1 (by decide)) ⟨by omega, fun _ => ur, by omega, by omega⟩
  have j3 : cJ L K r z3 A3 := by rw [e3]; exact cJ_st j2 k11 (cg_dig x10 w11 x1 (by decide)) ⟨fun _ => d5r, by omega, by omega, by omega⟩
  have j4 : cJ L K r z3 A4 := by rw [e4]; exact cJ_st j3 k12 (cg_dig x10 w12 x1 (by decide)) ⟨fun _ => d6r, by omega, by omega, by omega⟩
  have j5 : cJ L K r z3 A5 := by rw [e5]; exact cJ_st j4 c1 (cg_dig x10 c3 x4 (by decide)) ⟨fun _ => by rw [mg4, n1']; omega, by omega, by omega, by omega⟩
  have rw9 : ∀ i, i < 20 → A5 (cw_g K (r (r R 3) 3) i) = A (cw_g K (r (r R 3) 3) i) := fun i hi => by
    have q := (cq_ww X hi).2.2.1
    have nr : ∀ j, (j = 9 ∨ j = 10 ∨ j = 11 ∨ j = 12) → (cw_g K (r (r R 3) 3) i) ≠ r R j := fun j hj => cg_ne q (cq_wr X hj).1 (fun e => o.1 _ _ x1 e.1.symm)
    exact oth _ (nr 9 (by omega)) (nr 10 (by omega)) (nr 11 (by omega)) (nr 12 (by omega)) (cg_ne q c3 (fun e => o.1 _ _ x4 e.1.symm))
  have zs : ∀ t, t < 2 → z3 (cw_g K (r (r R 3) 1) t) = z (cw_g K (r (r R 3) 1) t) := fun t ht => of3 _ (o.2.2.2.2 t ht).2.2 (o.2.2.2.2 t ht).1
  have aw : A5 (r (r R 2) 0) = A (r (r R 2) 0) := by
    have q := h.1.2.1
    have f : ∀ t y, cw_A L K t y → (t = 0 ∨ t = 1) → r (r R 2) 0 ≠ y := fun t y hy' ht e => by
      rw [e] at q
      have := cw_A_ne q hy'
      omega
    exact oth _ (f 1 _ k9 (by omega)) (f 1 _ k10 (by omega)) (f 0 _ k11 (by omega)) (f 0 _ k12 (by omega)) (f 0 _ c1 (by omega))
  have kd : ∀ t, t < 2 → ∀ d, cq_d r z A (cw_g K (r (r R 3) 1) t) (P t) d → cq_d r z3 A5 (cw_g K (r (r R 3) 1) t) (P t) d := fun t ht d hd => cq_d_mono hd (by rw [zs t ht]; exact Int.le_refl _) (fun i _ _ => by rw [sd t 2 ht (by omega)]) (fun _ h => h)
  refine h1 z3 A5 p3 ⟨cF_trans f1 (fun y hy' => ⟨rfl, ?_⟩), j5, fun t ht => ?_, fun j hj => ?_, fun i j hi hj => by rw [rw9 i hi]; exact f5 i j hi hj⟩ ⟨mg1, by omega, by rw [mg 2 (by decide)]; exact n3, by rw [mg 3 (by decide)]; exact n4, by rw [mg 2 (by decide), mg 3 (by decide), mg 0 (by decide)]; omega, by rw [mg 0 (by decide)]; exact n6⟩ (fun t ht => ⟨by rw [zs t ht]; exact Int.le_refl _, fun i _ _ => by rw [sd t 2 ht (by omega)]⟩) (cq_w_keep hw3 rfl aw ⟨rfl, rfl⟩) a3
  · have nr : ∀ j, (j = 9 ∨ j = 10 ∨ j = 11 ∨ j = 12) → y ≠ r R j := fun j hj e => hy' (by rw [e]; exact Or.inl (cq_wr X hj).2)
    exact oth y (nr 9 (by omega)) (nr 10 (by omega)) (nr 11 (by omega)) (nr 12 (by omega)) (fun e => hy' (by rw [e]; exact Or.inr c4))
  · have := D.2.2.1 t ht
    unfold cq_B cq_d at this ⊢
    rw [zs t ht, sd t 2 ht (by omega), sd t 3 ht (by omega), sd t 4 ht (by omega)]
    exact this
  · by_cases ej : j = x.toNat
    · rw [ej, m9x, m10x, m11x, m12x]
      exact ⟨⟨by rw [eu]; exact mp4, le⟩, kd 0 (by omega) _ h5, kd 1 (by omega) _ h6⟩
    · obtain ⟨b1, b2, b3⟩ := D.2.2.2.1 j (by omega)
      rw [m9 j ej, m10 j ej, m11 j ej, m12 j ej]
      exact ⟨b1, kd 0 (by omega) _ b2, kd 1 (by omega) _ b3⟩
end CL
