section CE
variable {L : List Nat} {K : Nat → cw_K} {r : Nat → Nat → Nat} {z A : Nat → Nat → Int} {w : Nat → Nat × Nat} {ρ : Nat → Nat} {z0 A0 : Nat → Nat → Int} {R : Nat} {P : Nat → Int → Prop} {O : Nat → Nat → Prop} {E : Int} {c : Nat → Int} {n : Nat} {T : sp_T} {ps : Nat → Nat} {nt : Nat} {σ : Nat → Nat → Int}
theorem sp_en_o {top bot t b dA dB : Int} {q : Nat} (h : q < 20) (h0 : q ≠ 0) : sp_en σ top bot t b dA dB q = σ q := by
  unfold sp_en
  rw [hz_s_a h0, hz_s_a (by omega), hz_s_a (by omega), hz_s_a (by omega), hz_s_a (by omega)]
theorem sp_en_i {top bot t b dA dB : Int} {q j : Nat} (h0 : q ≠ 0) (hj : j ≠ (σ 0 1).toNat) : sp_en σ top bot t b dA dB q j = σ q j := by
  unfold sp_en
  rw [hz_s_a h0, hz_s_i hj, hz_s_i hj, hz_s_i hj, hz_s_i hj]
theorem sp_en_0 {top bot t b dA dB : Int} {j : Nat} (hj : j ≠ 1) : sp_en σ top bot t b dA dB 0 j = σ 0 j := by
  unfold sp_en
  rw [hz_s_i (show j ≠ (1 : Int).toNat from hj), hz_s_a (by decide), hz_s_a (by decide), hz_s_a (by decide), hz_s_a (by decide)]
theorem sp_en_1 {top bot t b dA dB : Int} : sp_en σ top bot t b dA dB 0 1 = σ 0 1 + 1 := by
  unfold sp_en
  exact hz_s_same (A := hz_s (hz_s (hz_s (hz_s σ 20 (σ 0 1) (sp_q top (sp_g top b) * sp_q t (sp_g t bot))) 21 (σ 0 1) (sp_q bot (sp_g t bot) * sp_q b (sp_g top b))) 22 (σ 0 1) dA) 23 (σ 0 1) dB) 0 1 (σ 0 1 + 1)
theorem sp_en_x (top bot t b dA dB : Int) : sp_en σ top bot t b dA dB 20 (σ 0 1).toNat = sp_q top (sp_g top b) * sp_q t (sp_g t bot) ∧ sp_en σ top bot t b dA dB 21 (σ 0 1).toNat = sp_q bot (sp_g t bot) * sp_q b (sp_g top b) ∧ sp_en σ top bot t b dA dB 22 (σ 0 1).toNat = dA ∧ sp_en σ top bot t b dA dB 23 (σ 0 1).toNat = dB := by
  unfold sp_en
  refine ⟨?_, ?_, ?_, ?_⟩
  · rw [hz_s_a (by decide), hz_s_a (by decide), hz_s_a (by decide), hz_s_a (by decide), hz_s_same]
  · rw [hz_s_a (by decide), hz_s_a (by decide), hz_s_a (by decide), hz_s_same]
  · rw [hz_s_a (by decide), hz_s_a (by decide), hz_s_same]
  · rw [hz_s_a (by decide), hz_s_same]
theorem sc_end {top bot t b dA dB : Int} {z' A' : Nat → Nat → Int} (h : sc_R K r R σ z A) (h0 : 0 ≤ σ 0 1) (hs : ∀ t, t < 2 → z' (cw_g K (r (r R 3) 1) t) 0 = z (cw_g K (r (r R 3) 1) t) 0) (ha : ∀ t k, t < 2 → (k = 1 ∨ k = 2 ∨ k = 3 ∨ k = 4) → A' (r (cw_g K (r (r R 3) 1) t) k) = A (r (cw_g K (r (r R 3) 1) t) k)) (hc : ∀ j : Nat, j ≠ 1 → A' (r (r R 3) 0) j = A (r (r R 3) 0) j) (hc1 : A' (r (r R 3) 0) 1 = σ 0 1 + 1) (h9 : ∀ j : Nat, j ≠ (σ 0 1).toNat → A' (r R 9) j = A (r R 9) j) (h10 : ∀ j : Nat, j ≠ (σ 0 1).toNat → A' (r R 10) j = A (r R 10) j) (h11 : ∀ j : Nat, j ≠ (σ 0 1).toNat → A' (r R 11) j = A (r R 11) j) (h12 : ∀ j : Nat, j ≠ (σ 0 1).toNat → A' (r R 12) j = A (r R 12) j) (x9 : A' (r R 9) (σ 0 1).toNat = sp_q top (sp_g top b) * sp_q t (sp_g t bot)) (x10 : A' (r R 10) (σ 0 1).toNat = sp_q bot (sp_g t bot) * sp_q b (sp_g top b)) (x11 : A' (r R 11) (σ 0 1).toNat = dA) (x12 : A' (r R 12) (σ 0 1).toNat = dB) : sc_R K r R (sp_en σ top bot t b dA dB) z' A' := by
  obtain ⟨a, b', d⟩ := h
  obtain ⟨y1, y2, y3, y4⟩ := sp_en_x (σ := σ) top bot t b dA dB
  refine ⟨fun j hj => ?_, fun t' ht => ?_, fun j hj => ?_⟩
  · by_cases ej : j = 1
    · rw [ej, hc1, sp_en_1]
    · rw [hc j ej, sp_en_0 ej]
      exact a j hj
  · rw [sp_en_o (by decide) (by decide), sp_en_o (by omega) (by omega), sp_en_o (by omega) (by omega), sp_en_o (by omega) (by omega), sp_en_o (by omega) (by omega), hs t' ht, ha t' 1 ht (by omega), ha t' 2 ht (by omega), ha t' 3 ht (by omega), ha t' 4 ht (by omega)]
    exact b' t' ht
  · rw [sp_en_1] at hj
    by_cases ej : j = (σ 0 1).toNat
    · rw [ej, x9, x10, x11, x12, y1, y2, y3, y4]
      exact ⟨rfl, rfl, rfl, rfl⟩
    · rw [h9 j ej, h10 j ej, h11 j ej, h12 j ej, sp_en_i (by decide) ej, sp_en_i (by decide) ej, sp_en_i (by decide) ej, sp_en_i (by decide) ej]
      exact d j (by omega)
theorem wv_c5_goThroughEnd {y1 y3 y5 y6 e : Int} {st : List Int} {k : Nat} (F9 : List sp_F) (TK : tk_T c n T ps nt) (X : cq_X L K r w ρ R) (D : cq_D L K r ρ R z0 A0 P O E z A) (S : sc_R K r R σ z A) (N : cq_n r A R E 1) (h : cv_w L K r c n T ps nt z A R k) (a : cq_A c n 1 st e (ps k)) (hk : T.1 k = 91) (hy : 0 ≤ y1 ∧ y1 ≤ y3 ∧ y3 ≤ 10000000000000) (h5 : cq_d r z A (cw_g K (r (r R 3) 1) 0) (P 0) y5) (h6 : cq_d r z A (cw_g K (r (r R 3) 1) 1) (P 1) y6) (hd5 : y5 = sp_dd 0 F9) (hd6 : y6 = sp_dd 1 F9) {Q : Int → (Nat → Nat → Int) → (Nat → Nat → Int) → Prop} (h1 : ∀ (z' A' : Nat → Nat → Int) (k' : Nat) (σ' : Nat → Nat → Int), cq_D L K r ρ R z0 A0 P O (E + 1) z' A' → sc_R K r R σ' z' A' → cq_n r A' R (E + 1) 0 → cq_M K r z A z' A' R → cv_w L K r c n T ps nt z' A' R k' → cq_A c n 10 st 0 (ps k') → σ' 0 0 = σ 0 0 → sp_be T σ k F9 y1 y3 = (0, -1, k', σ', F9) → Q 1 z' A') (h0 : ∀ z' A', cq_E L K r ρ R z0 A0 z' A' → sp_be T σ k F9 y1 y3 = sp_x (z' R 1) (z' R 0) → Q 0 z' A') : wp_c5_goThroughEnd L K z r A R y1 y3 y5 y6 Q := by
  obtain ⟨x1, x2, x3, x4, g4, ⟨k9, l9, w9, v9⟩, ⟨k10, l10, w10, v10⟩, ⟨k11, l11, w11, v11⟩, ⟨k12, l12, w12, v12⟩, x10, x11, x12⟩ := id X
  obtain ⟨c1, c2, c3, c4⟩ := cq_wc X
  have o := cq_o3 X
  have hb := cq_w_b h.1
  refine ⟨by omega, fun y3l => ⟨x1, x2, cv_adv TK h a (Or.inl (by decide)) (fun z1 d1 st1 e1 o1 hw1 s1 a1 => ?_)⟩, fun lg => ⟨x1, x2, wv_c5_refuse X D.1 D.2.1 h.1.1 (by decide) (by omega) (fun z' e e1 e0 => ⟨Or.inl rfl, h0 z' A e (by rw [e1, e0, h.2.2.2.1]; unfold sp_be; rw [if_pos (by omega)])⟩)⟩⟩
  obtain ⟨q1, q2⟩ := cq_1 s1
  rw [q1, show d1 = 5 by omega, show e1 = 1 by omega] at a1
  have of1 : ∀ a, a ≠ (r R 2) → a ≠ R → z1 a = z a := fun a a1 _ => o1 a a1
  have D1 := cq_D_z X D of1
  refine wv_c5_goThroughFraction TK X D1.1 D1.2.1 hw1 a1 (Or.inl rfl) (fun z2 o2 hw2 a2 fb ft _ e7 e8 nb _ => ⟨by decide, fun _ => ?_, fun q => absurd q (by decide)⟩) (fun z2 e e1 e0 why => ⟨by decide, fun q => absurd rfl q, fun _ => h0 z2 A e (by rw [e1, e0]; unfold sp_be; rw [if_neg (by omega), if_pos (by omega)])⟩)
  refine cv_adv TK hw2 a2 (Or.inl (by decide)) (fun z3 d3 st3 e3 o3 hw3 s3 a3 => ?_)
  obtain ⟨q3, q4, q5⟩ := cq_9 s3
  rw [q3, q4, show d3 = 10 by omega] at a3
  have zR : z3 R = z2 R := o3 R (Ne.symm o.2.2.1)
  have of3 : ∀ a, a ≠ (r R 2) → a ≠ R → z3 a = z a := fun a a1 a2 => by rw [o3 a a1, o2 a a1 a2]; exact of1 a a1 a2
  obtain ⟨f1, f2, f3, f4, f5⟩ := cq_D_z X D of3
  obtain ⟨n1, n2, n3, n4, n5, n6⟩ := N
  have n1' : A (r (r R 3) 0) (1 : Int).toNat = E := n1
  rw [← zR] at fb ft e7 e8
  have sE : σ 0 1 = E := by rw [← S.1 1 (by decide)]; exact n1
  refine ⟨x4, c1, by omega, by omega, fun x ex => ?_⟩
  have ex' : x = E := by omega
  clear ex
  subst ex'
  refine wv_c11_gcd (by omega) (by omega) (fun ga ega ga0 ga1 gat gaf => wv_c11_gcd (by omega) (by omega) (fun gb egb gb0 gb1 gbf gbb => wq_c11_quotient (by omega) ⟨ga0, ga1⟩ (fun u1 u1a _ u1c u1d => wq_c11_quotient (by omega) ⟨gb0, gb1⟩ (fun u2 u2a u2b u2c u2d v vr ve => ⟨k9, by omega, fun A1 e1 => wq_c11_quotient (by omega) ⟨gb0, gb1⟩ (fun u3 u3a _ u3c u3d => wq_c11_quotient (by omega) ⟨ga0, ga1⟩ (fun u4 u4a _ u4c u4d u ur ue => ⟨k10, by omega, fun A2 e2 => ⟨k11, by omega, fun A3 e3 => ⟨k12, by omega, fun A4 e4 => ⟨by omega, by omega, fun A5 e5 => ?_⟩⟩⟩⟩))⟩))))
  have w1 : u1 = sp_q y1 ga := sp_q_of u1c u1d ga0
  have w2 : u2 = sp_q (z3 R 7) gb := sp_q_of u2c u2d gb0
  have w3 : u3 = sp_q y3 gb := sp_q_of u3c u3d gb0
  have w4 : u4 = sp_q (z3 R 8) ga := sp_q_of u4c u4d ga0
  have u1a := u1a hy.1
  have u3a := u3a (by omega)
  have u4a := u4a (by omega)
  have u2s : (u2.natAbs : Int) ≤ 9999 := by
    by_cases s : 0 ≤ z3 R 7
    · have := u2a s; omega
    · have := u2b (by omega); omega
  have mp1 : ((u1 * u2).natAbs : Int) = u1 * (u2.natAbs : Int) := by rw [Int.natAbs_mul, Int.natCast_mul, show (u1.natAbs : Int) = u1 by omega]
  have mp2 : u1 * (u2.natAbs : Int) ≤ 1000000000 * 9999 := Int.mul_le_mul (by omega) u2s (by omega) (by omega)
  have mp3 : u3 * u4 ≤ 1000000000 * 9999 := Int.mul_le_mul (by omega) (by omega) (by omega) (by omega)
  have mp4 : 0 ≤ u3 * u4 := Int.mul_nonneg (by omega) (by omega)
  have ev : v = u1 * u2 := by
    generalize u1 * u2 = t at *
    generalize u1 * (u2.natAbs : Int) = t2 at *
    omega
  have eu : u = u3 * u4 := by
    generalize u3 * u4 = t at *
    omega
  have le : (v.natAbs : Int) ≤ 9999 * u := by
    rw [ev, eu, mp1]
    by_cases hg : gb = 0
    · rw [u2d hg]
      simp only [Int.natAbs_zero, Int.natCast_zero, Int.mul_zero]
      omega
    · have gap : 0 < ga := by
        apply Classical.byContradiction
        intro hg
        obtain ⟨k, hk⟩ := gaf
        rw [show ga = 0 by omega, Int.zero_mul] at hk
        omega
      have gbp : 0 < gb := by omega
      have r1 : u1 * ga = y1 := by rw [u1c gap]; exact Int.tdiv_mul_cancel gat
      have r2 : u2 * gb = z3 R 7 := by rw [u2c gbp]; exact Int.tdiv_mul_cancel gbf
      have r3 : u3 * gb = y3 := by rw [u3c gbp]; exact Int.tdiv_mul_cancel gbb
      have r4 : u4 * ga = z3 R 8 := by rw [u4c gap]; exact Int.tdiv_mul_cancel gaf
      have r5 : (u2.natAbs : Int) * gb = ((z3 R 7).natAbs : Int) := by rw [← r2, Int.natAbs_mul, Int.natCast_mul, show (gb.natAbs : Int) = gb by omega]
      exact cq_least ⟨hy.1, hy.2.1⟩ ⟨by omega, by omega⟩ fb.1 gap gbp r1 r5 r3 r4
  have a910 : r R 9 ≠ r R 10 := cg_ne w9 w10 (by simp)
  have a911 : r R 9 ≠ r R 11 := cg_ne w9 w11 (by simp)
  have a912 : r R 9 ≠ r R 12 := cg_ne w9 w12 (by simp)
  have a1011 : r R 10 ≠ r R 11 := cg_ne w10 w11 (by simp)
  have a1012 : r R 10 ≠ r R 12 := cg_ne w10 w12 (by simp)
  have a1112 : r R 11 ≠ r R 12 := cg_ne w11 w12 (by simp)
  have ag : ∀ j, (j = 9 ∨ j = 10 ∨ j = 11 ∨ j = 12) → r (r R 3) 0 ≠ r R j := fun j hj => cg_ne c3 (cq_wr X hj).1 (fun q => o.2.1 q.1)
  have oth : ∀ y, y ≠ r R 9 → y ≠ r R 10 → y ≠ r R 11 → y ≠ r R 12 → y ≠ r (r R 3) 0 → A5 y = A y := fun y y1 y2 y3 y4 y5 => by rw [e5, hz_s_a y5, e4, hz_s_a y4, e3, hz_s_a y3, e2, hz_s_a y2, e1, hz_s_a y1]
  have m9 : ∀ j : Nat, j ≠ x.toNat → A5 (r R 9) j = A (r R 9) j := fun j hj => by rw [e5, hz_s_a (Ne.symm (ag 9 (by omega))), e4, hz_s_a a912, e3, hz_s_a a911, e2, hz_s_a a910, e1, hz_s_i hj]
  have m9x : A5 (r R 9) x.toNat = v := by rw [e5, hz_s_a (Ne.symm (ag 9 (by omega))), e4, hz_s_a a912, e3, hz_s_a a911, e2, hz_s_a a910, e1, hz_s_same]
  have m10 : ∀ j : Nat, j ≠ x.toNat → A5 (r R 10) j = A (r R 10) j := fun j hj => by rw [e5, hz_s_a (Ne.symm (ag 10 (by omega))), e4, hz_s_a a1012, e3, hz_s_a a1011, e2, hz_s_i hj, e1, hz_s_a (Ne.symm a910)]
  have m10x : A5 (r R 10) x.toNat = u := by rw [e5, hz_s_a (Ne.symm (ag 10 (by omega))), e4, hz_s_a a1012, e3, hz_s_a a1011, e2, hz_s_same]
  have m11 : ∀ j : Nat, j ≠ x.toNat → A5 (r R 11) j = A (r R 11) j := fun j hj => by rw [e5, hz_s_a (Ne.symm (ag 11 (by omega))), e4, hz_s_a a1112, e3, hz_s_i hj, e2, hz_s_a (Ne.symm a1011), e1, hz_s_a (Ne.symm a911)]
  have m11x : A5 (r R 11) x.toNat = y5 := by rw [e5, hz_s_a (Ne.symm (ag 11 (by omega))), e4, hz_s_a a1112, e3, hz_s_same]
  have m12 : ∀ j : Nat, j ≠ x.toNat → A5 (r R 12) j = A (r R 12) j := fun j hj => by rw [e5, hz_s_a (Ne.symm (ag 12 (by omega))), e4, hz_s_i hj, e3, hz_s_a (Ne.symm a1112), e2, hz_s_a (Ne.symm a1012), e1, hz_s_a (Ne.symm a912)]
  have m12x : A5 (r R 12) x.toNat = y6 := by rw [e5, hz_s_a (Ne.symm (ag 12 (by omega))), e4, hz_s_same]
  have mg : ∀ j : Nat, j ≠ 1 → A5 (r (r R 3) 0) j = A (r (r R 3) 0) j := fun j hj => by rw [e5, hz_s_i (show j ≠ (1 : Int).toNat from hj), e4, hz_s_a (ag 12 (by omega)), e3, hz_s_a (ag 11 (by omega)), e2, hz_s_a (ag 10 (by omega)), e1, hz_s_a (ag 9 (by omega))]
  have mg4 : A4 (r (r R 3) 0) = A (r (r R 3) 0) := by rw [e4, hz_s_a (ag 12 (by omega)), e3, hz_s_a (ag 11 (by omega)), e2, hz_s_a (ag 10 (by omega)), e1, hz_s_a (ag 9 (by omega))]
  have mg1 : A5 (r (r R 3) 0) 1 = x + 1 := by
    have q := hz_s_same (A := A4) (r (r R 3) 0) 1 (A4 (r (r R 3) 0) (1 : Int).toNat + 1)
    rw [← e5, mg4, n1'] at q
    exact q
  have sd : ∀ t k, t < 2 → (k = 1 ∨ k = 2 ∨ k = 3 ∨ k = 4 ∨ k = 6 ∨ k = 7) → A5 (r (cw_g K (r (r R 3) 1) t) k) = A (r (cw_g K (r (r R 3) 1) t) k) := by
    intro t k ht hk
    have ap := cq_apart X ht hk
    exact oth _ (Ne.symm (ap.1 9 (by omega))) (Ne.symm (ap.1 10 (by omega))) (Ne.symm (ap.1 11 (by omega))) (Ne.symm (ap.1 12 (by omega))) (Ne.symm ap.2.2.1)
  have d5r : hz_rI y5 := by
    have := (D.2.2.1 0 (by omega)).1
    rcases h5 with h | ⟨h, h', -⟩
    · omega
    · omega
  have d6r : hz_rI y6 := by
    have := (D.2.2.1 1 (by omega)).1
    rcases h6 with h | ⟨h, h', -⟩
    · omega
    · omega
  have j1 : cJ L K r z3 A1 := by rw [e1]; exact cJ_st f2 k9 (cg_dig x10 w9 x1 (by decide)) ⟨by omega, fun _ => vr, by omega, by omega⟩
  have j2 : cJ L K r z3 A2 := by rw [e2]; exact cJ_st j1 k10 (cg_dig x10 w10 x1 (by decide)) ⟨by omega, fun _ => ur, by omega, by omega⟩
  have j3 : cJ L K r z3 A3 := by rw [e3]; exact cJ_st j2 k11 (cg_dig x10 w11 x1 (by decide)) ⟨fun _ => d5r, by omega, by omega, by omega⟩
  have j4 : cJ L K r z3 A4 := by rw [e4]; exact cJ_st j3 k12 (cg_dig x10 w12 x1 (by decide)) ⟨fun _ => d6r, by omega, by omega, by omega⟩
  have j5 : cJ L K r z3 A5 := by rw [e5]; exact cJ_st j4 c1 (cg_dig x10 c3 x4 (by decide)) ⟨fun _ => by rw [mg4, n1']; omega, by omega, by omega, by omega⟩
  have rw9 : ∀ i, i < 20 → A5 (cw_g K (r (r R 3) 3) i) = A (cw_g K (r (r R 3) 3) i) := fun i hi => by
    have q := (cq_ww X hi).2.2.1
    have nr : ∀ j, (j = 9 ∨ j = 10 ∨ j = 11 ∨ j = 12) → (cw_g K (r (r R 3) 3) i) ≠ r R j := fun j hj => cg_ne q (cq_wr X hj).1 (fun e => o.1 _ _ x1 e.1.symm)
    exact oth _ (nr 9 (by omega)) (nr 10 (by omega)) (nr 11 (by omega)) (nr 12 (by omega)) (cg_ne q c3 (fun e => o.1 _ _ x4 e.1.symm))
  have zs : ∀ t, t < 2 → z3 (cw_g K (r (r R 3) 1) t) = z (cw_g K (r (r R 3) 1) t) := fun t ht => of3 _ (o.2.2.2.2 t ht).2.2 (o.2.2.2.2 t ht).1
  have aw : A5 (r (r R 2) 0) = A (r (r R 2) 0) := by
    have q := h.1.1.2.1
    have f : ∀ t y, cw_A L K t y → (t = 0 ∨ t = 1) → r (r R 2) 0 ≠ y := fun t y hy' ht e => by
      rw [e] at q
      have := cw_A_ne q hy'
      omega
    exact oth _ (f 1 _ k9 (by omega)) (f 1 _ k10 (by omega)) (f 0 _ k11 (by omega)) (f 0 _ k12 (by omega)) (f 0 _ c1 (by omega))
  have kd : ∀ t, t < 2 → ∀ d, cq_d r z A (cw_g K (r (r R 3) 1) t) (P t) d → cq_d r z3 A5 (cw_g K (r (r R 3) 1) t) (P t) d := fun t ht d hd => cq_d_mono hd (by rw [zs t ht]; exact Int.le_refl _) (fun i _ _ => by rw [sd t 2 ht (by omega)]) (fun _ h => h)
  refine h1 z3 A5 (sp_fe T (k + 1) + 1) (sp_en σ y1 y3 (sp_rt T (k + 1)) (sp_rb T (k + 1)) (sp_dd 0 F9) (sp_dd 1 F9)) ⟨cF_trans f1 (fun y hy' => ⟨rfl, ?_⟩), j5, fun t ht => ?_, fun j hj => ?_, fun i j hi hj => by rw [rw9 i hi]; exact f5 i j hi hj⟩ (sc_end S (by rw [sE]; exact n2) (fun t ht => by rw [zs t ht]) (fun t k ht hk => sd t k ht (by omega)) mg (by rw [mg1, sE]) (by rw [sE]; exact m9) (by rw [sE]; exact m10) (by rw [sE]; exact m11) (by rw [sE]; exact m12) (by rw [sE, m9x, ev, w1, w2, ega, egb, e7, e8]) (by rw [sE, m10x, eu, w3, w4, ega, egb, e7, e8]) (by rw [sE, m11x, hd5]) (by rw [sE, m12x, hd6])) ⟨mg1, by omega, by rw [mg 2 (by decide)]; exact n3, by rw [mg 3 (by decide)]; exact n4, by rw [mg 2 (by decide), mg 3 (by decide), mg 0 (by decide)]; omega, by rw [mg 0 (by decide)]; exact n6⟩ (fun t ht => ⟨by rw [zs t ht]; exact Int.le_refl _, fun i _ _ => by rw [sd t 2 ht (by omega)]⟩) (cv_w_keep hw3 rfl aw ⟨rfl, rfl⟩) a3 (sp_en_0 (by decide)) (by unfold sp_be; rw [if_neg (by omega), if_neg nb])
  · have nr : ∀ j, (j = 9 ∨ j = 10 ∨ j = 11 ∨ j = 12) → y ≠ r R j := fun j hj e => hy' (by rw [e]; exact Or.inl (cq_wr X hj).2)
    exact oth y (nr 9 (by omega)) (nr 10 (by omega)) (nr 11 (by omega)) (nr 12 (by omega)) (fun e => hy' (by rw [e]; exact Or.inr c4))
  · have := D.2.2.1 t ht
    unfold cq_B cq_d at this ⊢
    rw [zs t ht, sd t 2 ht (by omega), sd t 3 ht (by omega), sd t 4 ht (by omega)]
    exact this
  · by_cases ej : j = x.toNat
    · rw [ej, m9x, m10x, m11x, m12x]
      exact ⟨⟨by rw [eu]; exact mp4, le⟩, kd 0 (by omega) _ h5, kd 1 (by omega) _ h6⟩
    · obtain ⟨b1, b2, b3⟩ := D.2.2.2.1 j (by omega)
      rw [m9 j ej, m10 j ej, m11 j ej, m12 j ej]
      exact ⟨b1, kd 0 (by omega) _ b2, kd 1 (by omega) _ b3⟩
end CE
