section CK
variable {L : List Nat} {K : Nat → cw_K} {r : Nat → Nat → Nat} {z A : Nat → Nat → Int} {w : Nat → Nat × Nat} {ρ : Nat → Nat} {z0 A0 : Nat → Nat → Int} {R : Nat} {P : Nat → Int → Prop} {O : Nat → Nat → Prop} {E : Int} {c : Nat → Int} {n : Nat}
/-- a count changed -/
theorem cq_cnt {i v : Int} {A' : Nat → Nat → Int} {p : Nat} (X : cq_X L K r w ρ R) (D : cq_D L K r ρ R z0 A0 P O E z A) (hw : cq_w L K r c n z A R p) (e : A' = hz_s A (r (r R 3) 0) i v) (hv : hz_rI v) : cq_D L K r ρ R z0 A0 P O E z A' ∧ cq_M K r z A z A' R ∧ cq_w L K r c n z A' R p := by
  obtain ⟨c1, c2, c3, c4⟩ := cq_wc X
  have x4 := X.2.2.2.1
  have x10 := X.2.2.2.2.2.2.2.2.2.1
  have oth : ∀ a, a ≠ r (r R 3) 0 → A' a = A a := fun a ha => by rw [e, hz_s_a ha]
  refine ⟨cq_D_keep D (fun a ha => ⟨rfl, oth a (fun q => ha (by rw [q]; exact Or.inr c4))⟩) (by rw [e]; exact cJ_st D.2.1 c1 (cg_dig x10 c3 x4 (by decide)) ⟨fun _ => hv, by omega, by omega, by omega⟩) (fun _ _ => rfl) (fun t k ht hk => oth _ (Ne.symm (cq_apart X ht (by omega)).2.2.1)) (fun k hk => oth _ (Ne.symm (cg_ne c3 (cq_wr X hk).1 (fun q => (cq_o3 X).2.1 q.1)))) (fun i hi => oth _ (cg_ne (cq_ww X hi).2.2.1 c3 (fun q => (cq_o3 X).1 _ _ x4 q.1.symm))), fun t ht => ⟨Int.le_refl _, fun i _ _ => by rw [oth _ (Ne.symm (cq_apart X ht (k := 2) (by omega)).2.2.1)]⟩, cq_w_keep hw rfl (oth _ (fun q => ?_)) ⟨rfl, rfl⟩⟩
  have t := hw.1.2.1
  rw [q] at t
  have := cw_A_ne t c1
  omega
/-- what is asked of a node; m: how many nodes may lie in it one in another, itself too -/
noncomputable def cq_N (L : List Nat) (K : Nat → cw_K) (r : Nat → Nat → Nat) (ρ : Nat → Nat) (R : Nat) (z0 A0 : Nat → Nat → Int) (c : Nat → Int) (n : Nat) (N : ((Nat → Nat → Int) → (Nat → Nat → Int) → Nat → Int → Int → Int → Int → Int → (Int → (Nat → Nat → Int) → (Nat → Nat → Int) → Prop) → Prop)) (m : Nat) : Prop :=
  ∀ (z A : Nat → Nat → Int) (P : Nat → Int → Prop) (O : Nat → Nat → Prop) (E : Int) (st : List Int) (e : Int) (p : Nat) (y1 y2 y4 y6 y7 : Int) (Q : Int → (Nat → Nat → Int) → (Nat → Nat → Int) → Prop), cq_D L K r ρ R z0 A0 P O E z A → cq_n r A R E 0 → cq_w L K r c n z A R p → cq_A c n 1 st e p → (0 ≤ y1 ∧ y1 ≤ 21 ∧ 22 ≤ y1 + (m : Int)) → (0 ≤ y2 ∧ y2 ≤ y4 ∧ y4 ≤ 10000000000000) → cq_d r z A (cw_g K (r (r R 3) 1) 0) (P 0) y6 → cq_d r z A (cw_g K (r (r R 3) 1) 1) (P 1) y7 → (∀ (E' : Int) (z' A' : Nat → Nat → Int) (p' : Nat), cq_D L K r ρ R z0 A0 P O E' z' A' → cq_n r A' R E' 0 → cq_M K r z A z' A' R → cq_w L K r c n z' A' R p' → cq_A c n 10 st 0 p' → Q 1 z' A') → (∀ z' A', cq_E L K r ρ R z0 A0 z' A' → Q 0 z' A') → N z A R y1 y2 y4 y6 y7 Q
theorem cq_n_2 {A' : Nat → Nat → Int} (h : cq_n r A R E 1) (e : A' = hz_s A (r (r R 3) 0) 2 (A (r (r R 3) 0) (2 : Int).toNat + 1)) : cq_n r A' R E 0 ∧ hz_rI (A (r (r R 3) 0) (2 : Int).toNat + 1) := by
  obtain ⟨n1, n2, n3, n4, n5, n6⟩ := h
  have n' : A (r (r R 3) 0) (2 : Int).toNat = A (r (r R 3) 0) 2 := rfl
  have m2 : A' (r (r R 3) 0) 2 = A (r (r R 3) 0) 2 + 1 := by
    have q := hz_s_same (A := A) (r (r R 3) 0) 2 (A (r (r R 3) 0) (2 : Int).toNat + 1)
    rw [← e] at q
    exact q
  have mo : ∀ j : Nat, j ≠ 2 → A' (r (r R 3) 0) j = A (r (r R 3) 0) j := fun j hj => by rw [e, hz_s_i (show j ≠ (2 : Int).toNat from hj)]
  exact ⟨⟨by rw [mo 1 (by decide)]; exact n1, n2, by rw [m2]; omega, by rw [mo 3 (by decide)]; exact n4, by rw [m2, mo 3 (by decide), mo 0 (by decide)]; omega, by rw [mo 0 (by decide)]; exact n6⟩, by rw [n']; omega⟩
theorem cq_n_3 {A' : Nat → Nat → Int} (h : cq_n r A R E 1) (e : A' = hz_s A (r (r R 3) 0) 3 (A (r (r R 3) 0) (3 : Int).toNat + 1)) : cq_n r A' R E 0 ∧ hz_rI (A (r (r R 3) 0) (3 : Int).toNat + 1) := by
  obtain ⟨n1, n2, n3, n4, n5, n6⟩ := h
  have n' : A (r (r R 3) 0) (3 : Int).toNat = A (r (r R 3) 0) 3 := rfl
  have m2 : A' (r (r R 3) 0) 3 = A (r (r R 3) 0) 3 + 1 := by
    have q := hz_s_same (A := A) (r (r R 3) 0) 3 (A (r (r R 3) 0) (3 : Int).toNat + 1)
    rw [← e] at q
    exact q
  have mo : ∀ j : Nat, j ≠ 3 → A' (r (r R 3) 0) j = A (r (r R 3) 0) j := fun j hj => by rw [e, hz_s_i (show j ≠ (3 : Int).toNat from hj)]
  exact ⟨⟨by rw [mo 1 (by decide)]; exact n1, n2, by rw [mo 2 (by decide)]; exact n3, by rw [m2]; omega, by rw [m2, mo 2 (by decide), mo 0 (by decide)]; omega, by rw [mo 0 (by decide)]; exact n6⟩, by rw [n']; omega⟩
theorem cq_n_0 {A' : Nat → Nat → Int} (h : cq_n r A R E 0) (hl : ¬ 400 ≤ A (r (r R 3) 0) (0 : Int).toNat) (e : A' = hz_s A (r (r R 3) 0) 0 (A (r (r R 3) 0) (0 : Int).toNat + 1)) : cq_n r A' R E 1 ∧ hz_rI (A (r (r R 3) 0) (0 : Int).toNat + 1) := by
  obtain ⟨n1, n2, n3, n4, n5, n6⟩ := h
  have n' : A (r (r R 3) 0) (0 : Int).toNat = A (r (r R 3) 0) 0 := rfl
  rw [n'] at hl
  have m2 : A' (r (r R 3) 0) 0 = A (r (r R 3) 0) 0 + 1 := by
    have q := hz_s_same (A := A) (r (r R 3) 0) 0 (A (r (r R 3) 0) (0 : Int).toNat + 1)
    rw [← e] at q
    exact q
  have mo : ∀ j : Nat, j ≠ 0 → A' (r (r R 3) 0) j = A (r (r R 3) 0) j := fun j hj => by rw [e, hz_s_i (show j ≠ (0 : Int).toNat from hj)]
  exact ⟨⟨by rw [mo 1 (by decide)]; exact n1, n2, by rw [mo 2 (by decide)]; exact n3, by rw [mo 3 (by decide)]; exact n4, by rw [m2, mo 2 (by decide), mo 3 (by decide)]; omega, by rw [m2]; omega⟩, by rw [n']; omega⟩
theorem wq_c5_goThroughDraw {N : ((Nat → Nat → Int) → (Nat → Nat → Int) → Nat → Int → Int → Int → Int → Int → (Int → (Nat → Nat → Int) → (Nat → Nat → Int) → Prop) → Prop)} {m : Nat} {y1 y2 y4 y6 y7 e : Int} {st : List Int} {p : Nat} (X : cq_X L K r w ρ R) (hN : cq_N L K r ρ R z0 A0 c n N m) (D : cq_D L K r ρ R z0 A0 P O E z A) (N1 : cq_n r A R E 1) (h : cq_w L K r c n z A R p) (a : cq_A c n 1 st e p) (hk : z (r R 2) 2 = 63) (hy1 : 0 ≤ y1 ∧ y1 ≤ 20 ∧ 21 ≤ y1 + (m : Int)) (hy : 0 ≤ y2 ∧ y2 ≤ y4 ∧ y4 ≤ 10000000000000) (h6 : cq_d r z A (cw_g K (r (r R 3) 1) 0) (P 0) y6) (h7 : cq_d r z A (cw_g K (r (r R 3) 1) 1) (P 1) y7) {Q : Int → (Nat → Nat → Int) → (Nat → Nat → Int) → Prop} (h1 : ∀ (E' : Int) (z' A' : Nat → Nat → Int) (p' : Nat), cq_D L K r ρ R z0 A0 P O E' z' A' → cq_n r A' R E' 0 → cq_M K r z A z' A' R → cq_w L K r c n z' A' R p' → cq_A c n 10 st 0 p' → Q 1 z' A') (h0 : ∀ z' A', cq_E L K r ρ R z0 A0 z' A' → Q 0 z' A') : wp_c5_goThroughDraw L K N z r A R y1 y2 y4 y6 y7 Q := by
  obtain ⟨c1, c2, c3, c4⟩ := cq_wc X
  have o := cq_o3 X
  have hb := cq_w_b h
  refine ⟨X.1, X.2.1, fun x8 e8 => ⟨by omega, fun y4l => ⟨X.2.2.2.1, c1, by omega, by omega, fun A1 eA => ?_⟩, fun _ => wq_c5_refuse X D.1 D.2.1 h.1 (by decide) (by omega) (fun z' e => ⟨Or.inl rfl, h0 z' A e⟩)⟩⟩
  obtain ⟨N2, rv⟩ := cq_n_2 N1 eA
  obtain ⟨D1, M1, w1⟩ := cq_cnt X D h eA rv
  refine cq_adv w1 a (Or.inl (by decide)) (fun z1 d1 st1 e1 p1 o1 hw1 s1 a1 => ?_)
  obtain ⟨q1, q2⟩ := cq_1 s1
  rw [q1, show d1 = 4 by omega, show e1 = 0 by omega] at a1
  have of1 : ∀ a, a ≠ r R 2 → a ≠ R → z1 a = z a := fun a a1 _ => o1 a a1
  intro PP hPP
  have fin : ∀ (j : Nat) (z2 A2 : Nat → Nat → Int) (E2 d2 : Int) (st2 : List Int) (p2 : Nat) (x9 x10 x12 : Int), j ≤ 400 → x9 = (j : Int) → (0 ≤ x10 ∧ x10 ≤ 10000000000000) → (0 ≤ x12 ∧ x12 ≤ (j : Int) * x10) → ((d2 = 4 ∧ st2 = st) ∨ (d2 = 10 ∧ st2 = 1 :: st)) → cq_D L K r ρ R z0 A0 P O E2 z2 A2 → cq_n r A2 R E2 0 → cq_M K r z A z2 A2 R → cq_w L K r c n z2 A2 R p2 → cq_A c n d2 st2 0 p2 → (x9 ≤ 8 → z2 (r R 2) 2 = 41) → wp_c5_goThroughDraw_227 L K N z2 r A2 R x8 x9 x10 x12 Q := by
    intro j z2 A2 E2 d2 st2 p2 x9 x10 x12 hj e9 b10 b12 hd D2 N2 M2 w2 a2 k41
    refine ⟨X.1, X.2.1, cq_adv w2 a2 ?_ (fun z3 d3 st3 e3 p3 o3 hw3 s3 a3 => ?_)⟩
    · rcases hd with ⟨hd, hs⟩ | ⟨hd, hs⟩
      · exact Or.inl (by omega)
      · exact Or.inr (by rw [hs]; simp)
    · have of3 : ∀ a, a ≠ r R 2 → a ≠ R → z3 a = z2 a := fun a a1 _ => o3 a a1
      have D3 := cq_D_z X D2 of3
      have b12' : (j : Int) * x10 ≤ 400 * 10000000000000 := Int.mul_le_mul (by omega) b10.2 b10.1 (by omega)
      refine wq_c5_endDraw X D3.1 D3.2.1 hw3.1 (by omega) (by omega) (by omega) (by omega) (fun q => ⟨Or.inr rfl, ?_⟩) (fun z' e => ⟨Or.inl rfl, h0 z' A2 e⟩)
      have k41 := k41 q
      rcases hd with ⟨hd, hs⟩ | ⟨hd, hs⟩
      · rw [hd, hs] at s3
        obtain ⟨-, -, q3, -⟩ := cq_4 s3
        omega
      · rw [hd, hs] at s3
        obtain ⟨q1, q2⟩ := cq_10 s3
        rcases q2 with ⟨-, ⟨x, hx⟩, qd⟩ | ⟨qk, -⟩
        · have hs3 : st = st3 := List.tail_eq_of_cons_eq hx
          rw [← hs3, qd, q1] at a3
          exact h1 E2 z3 A2 p3 D3 N2 (cq_M_trans M2 (cq_M_z X of3)) hw3 a3
        · omega
  have key : ∀ (k j : Nat) (z2 A2 : Nat → Nat → Int) (E2 d2 : Int) (st2 : List Int) (p2 : Nat) (x9 x10 x12 x14 : Int), j + k = 400 → x9 = (j : Int) → x14 = (j : Int) → (0 ≤ x10 ∧ x10 ≤ 10000000000000) → (0 ≤ x12 ∧ x12 ≤ (j : Int) * x10) → ((d2 = 4 ∧ st2 = st) ∨ (d2 = 10 ∧ st2 = 1 :: st)) → cq_D L K r ρ R z0 A0 P O E2 z2 A2 → cq_n r A2 R E2 0 → cq_M K r z A z2 A2 R → cq_w L K r c n z2 A2 R p2 → cq_A c n d2 st2 0 p2 → PP z2 A2 x9 x10 x12 x14 := by
    intro k
    induction k with
    | zero =>
      intro j z2 A2 E2 d2 st2 p2 x9 x10 x12 x14 hk e9 e14 b10 b12 hd D2 N2 M2 w2 a2
      exact hPP z2 A2 x9 x10 x12 x14 ⟨by omega, fun _ => fin j z2 A2 E2 d2 st2 p2 x9 x10 x12 (by omega) e9 b10 b12 hd D2 N2 M2 w2 a2 (fun q => by omega), fun q => by omega⟩
    | succ k ih =>
      intro j z2 A2 E2 d2 st2 p2 x9 x10 x12 x14 hk e9 e14 b10 b12 hd D2 N2 M2 w2 a2
      refine hPP z2 A2 x9 x10 x12 x14 ⟨by omega, fun q => by omega, fun _ => ⟨X.1, X.2.1, (cq_w_b w2).2.1, fun q41 => fin j z2 A2 E2 d2 st2 p2 x9 x10 x12 (by omega) e9 b10 b12 hd D2 N2 M2 w2 a2 (fun _ => q41), fun q41 => ?_⟩⟩
      have hd' : ¬ d2 = 10 ∨ ¬ st2 = [] := by
        rcases hd with ⟨hd, hs⟩ | ⟨hd, hs⟩
        · exact Or.inl (by omega)
        · exact Or.inr (by rw [hs]; simp)
      refine cq_adv w2 a2 hd' (fun z3 d3 st3 e3 p3 o3 hw3 s3 a3 => ?_)
      have s5 : d3 = 5 ∧ st3 = 1 :: st ∧ e3 = 0 := by
        rcases hd with ⟨hd, hs⟩ | ⟨hd, hs⟩
        · rw [hd, hs] at s3
          obtain ⟨q1, q2, -, q4⟩ := cq_4 s3
          exact ⟨q4, q1, q2⟩
        · rw [hd, hs] at s3
          obtain ⟨q1, q2⟩ := cq_10 s3
          rcases q2 with ⟨qk, -⟩ | ⟨-, q3, ⟨⟨t, ht⟩, -⟩ | ⟨-, q5⟩⟩
          · exact absurd qk q41
          · have h9 : (1 : Int) = 0 := List.head_eq_of_cons_eq ht
            omega
          · exact ⟨q5, q3, q1⟩
      rw [s5.1, s5.2.1, s5.2.2] at a3
      have of3 : ∀ a, a ≠ r R 2 → a ≠ R → z3 a = z2 a := fun a a1 _ => o3 a a1
      have D3 := cq_D_z X D2 of3
      refine wq_c5_goThroughFraction X D3.1 D3.2.1 hw3 a3 (Or.inr rfl) (fun z4 p4 o4 hw4 a4 f8 f7 f78 => ⟨by decide, fun _ => ?_, fun q => absurd q (by decide)⟩) (fun z4 e => ⟨by decide, fun q => absurd rfl q, fun _ => h0 z4 A2 e⟩)
      refine cq_adv hw4 a4 (Or.inl (by decide)) (fun z5 d5 st5 e5 p5 o5 hw5 s6 a5 => ?_)
      obtain ⟨q1, q2, q3⟩ := cq_9 s6
      rw [q1, q2, show d5 = 1 by omega] at a5
      have zR : z5 R = z4 R := o5 R (Ne.symm o.2.2.1)
      have of5 : ∀ a, a ≠ r R 2 → a ≠ R → z5 a = z2 a := fun a a1 a2 => by rw [o5 a a1, o4 a a1 a2]; exact o3 a a1
      have D5 := cq_D_z X D2 of5
      have M5 : cq_M K r z A z5 A2 R := cq_M_trans M2 (cq_M_z X of5)
      have f78 := f78 rfl
      rw [← zR] at f8 f7 f78
      have j1 : ∀ y : Int, ((j + 1 : Nat) : Int) * y = (j : Int) * y + y := fun y => by
        rw [Int.natCast_add, Int.add_mul]
        show (j : Int) * y + 1 * y = _
        rw [Int.one_mul]
      have nxt9 : ∀ x10' x12' : Int, (0 ≤ x10' ∧ x10' ≤ 10000000000000) → (0 ≤ x12' ∧ x12' ≤ ((j + 1 : Nat) : Int) * x10') → wp_c5_goThroughDraw_154 L K N z5 r A2 R y1 y2 y4 y6 y7 x8 x9 x10' x12' x14 PP Q := by
        intro x10' x12' c10 c12
        refine ⟨X.1, fun x15 e15 x17 e17 => ?_⟩
        have b1 : 0 ≤ y2 * z5 R 7 := Int.mul_nonneg hy.1 f78.1
        have b2 : y2 * z5 R 7 ≤ y4 * z5 R 8 := Int.mul_le_mul hy.2.1 f78.2 f78.1 (by omega)
        have b3 : y4 * z5 R 8 ≤ 1000000000 * 9999 := Int.mul_le_mul (by omega) f8.2 (by omega) (by omega)
        rw [← e15] at b1 b2
        rw [← e17] at b2 b3
        refine wq_c11_gcd (by omega) (by omega) (fun g g0 g1 => wq_c11_quotient (by omega) ⟨g0, g1⟩ (fun u u1 _ u3 u4 => wq_c11_quotient (by omega) ⟨g0, g1⟩ (fun v v1 _ v3 v4 => ?_)))
        have u1 := u1 b1
        have v1 := v1 (by omega)
        have uv : u ≤ v := by
          by_cases hg : g = 0
          · have a1 := u4 hg
            have a2 := v4 hg
            omega
          · have a1 := u3 (by omega)
            have a2 := v3 (by omega)
            rw [a1, a2, Int.tdiv_eq_ediv_of_nonneg b1, Int.tdiv_eq_ediv_of_nonneg (by omega)]
            exact Int.ediv_le_ediv (by omega) b2
        refine hN z5 A2 P O E2 (1 :: st) 0 p5 (y1 + 1) u v y6 y7 _ D5 N2 hw5 a5 (by omega) ⟨u1.1, uv, by omega⟩ (cq_d_mono h6 (M5 0 (by omega)).1 (M5 0 (by omega)).2 (fun _ h => h)) (cq_d_mono h7 (M5 1 (by omega)).1 (M5 1 (by omega)).2 (fun _ h => h)) (fun E' z' A' p' D' N' M' w' a' => ⟨by decide, fun _ x9' e9' x14' e14' => ?_, fun q => absurd q (by decide)⟩) (fun z' A' e => ⟨by decide, fun q => absurd rfl q, fun _ => h0 z' A' e⟩)
        exact ih (j + 1) z' A' E' 10 (1 :: st) p' x9' x10' x12' x14' (by omega) (by omega) (by omega) c10 c12 (Or.inr ⟨rfl, rfl⟩) D' N' (cq_M_trans M5 M') w' a'
      refine ⟨by omega, fun q => nxt9 x10 x12 b10 ⟨b12.1, ?_⟩, fun q => ?_⟩
      · rw [j1]
        omega
      · have b1 : x10 * z5 R 8 ≤ 1000000000 * 9999 := Int.mul_le_mul (by omega) f8.2 (by omega) (by omega)
        refine wq_c11_lcm (M := 10000000000000) ⟨b10.1, by omega⟩ ⟨by omega, by omega⟩ (by omega) (by decide) (fun nx n0 n1 => wq_c11_quotient (by omega) ⟨b10.1, by omega⟩ (fun u u1 _ u3 u4 => wq_c11_quotient (by omega) ⟨by omega, by omega⟩ (fun v v1 _ v3 _ x12' e12 => nxt9 nx x12' ⟨n0, n1⟩ ?_)))
        have u1 := u1 n0
        have v1 := v1 n0
        have hu : x10 * u ≤ nx := by
          by_cases hx : x10 = 0
          · rw [hx, Int.zero_mul]
            exact n0
          · rw [u3 (by omega), Int.tdiv_eq_ediv_of_nonneg n0]
            have g1 := Int.mul_ediv_add_emod nx x10
            have g2 := Int.emod_nonneg nx hx
            omega
        have hv : z5 R 8 * v ≤ nx := by
          rw [v3 (by omega), Int.tdiv_eq_ediv_of_nonneg n0]
          have g1 := Int.mul_ediv_add_emod nx (z5 R 8)
          have g2 := Int.emod_nonneg nx (show z5 R 8 ≠ 0 by omega)
          omega
        have h7' : z5 R 7 * v ≤ z5 R 8 * v := Int.mul_le_mul_of_nonneg_right f78.2 v1.1
        have h8' : 0 ≤ z5 R 7 * v := Int.mul_nonneg f78.1 v1.1
        have h9' : 0 ≤ x12 * u := Int.mul_nonneg b12.1 u1.1
        have h10' : x12 * u ≤ (j : Int) * x10 * u := Int.mul_le_mul_of_nonneg_right b12.2 u1.1
        have h11' : (j : Int) * x10 * u = (j : Int) * (x10 * u) := Int.mul_assoc _ _ _
        have h12' : (j : Int) * (x10 * u) ≤ (j : Int) * nx := Int.mul_le_mul_of_nonneg_left hu (by omega)
        rw [j1 nx]
        exact ⟨by omega, by omega⟩
  exact key 400 0 z1 A1 E 4 st p1 0 1 0 0 rfl rfl rfl (by decide) (by decide) (Or.inl ⟨rfl, rfl⟩) (cq_D_z X D1 of1) N2 (cq_M_trans M1 (cq_M_z X of1)) hw1 a1
theorem wq_c5_goThroughChoice {N : ((Nat → Nat → Int) → (Nat → Nat → Int) → Nat → Int → Int → Int → Int → Int → (Int → (Nat → Nat → Int) → (Nat → Nat → Int) → Prop) → Prop)} {m : Nat} {y1 y2 y4 y6 y7 e : Int} {st : List Int} {p : Nat} (X : cq_X L K r w ρ R) (hN : cq_N L K r ρ R z0 A0 c n N m) (D : cq_D L K r ρ R z0 A0 P O E z A) (N1 : cq_n r A R E 1) (h : cq_w L K r c n z A R p) (a : cq_A c n 1 st e p) (hk : ¬ z (r R 2) 2 = 63 ∧ ¬ z (r R 2) 2 = 91) (hy1 : 0 ≤ y1 ∧ y1 ≤ 20 ∧ 21 ≤ y1 + (m : Int)) (hy : 0 ≤ y2 ∧ y2 ≤ y4 ∧ y4 ≤ 10000000000000) (h6 : cq_d r z A (cw_g K (r (r R 3) 1) 0) (P 0) y6) (h7 : cq_d r z A (cw_g K (r (r R 3) 1) 1) (P 1) y7) {Q : Int → (Nat → Nat → Int) → (Nat → Nat → Int) → Prop} (h1 : ∀ (E' : Int) (z' A' : Nat → Nat → Int) (p' : Nat), cq_D L K r ρ R z0 A0 P O E' z' A' → cq_n r A' R E' 0 → cq_M K r z A z' A' R → cq_w L K r c n z' A' R p' → cq_A c n 10 st 0 p' → Q 1 z' A') (h0 : ∀ z' A', cq_E L K r ρ R z0 A0 z' A' → Q 0 z' A') : wp_c5_goThroughChoice L K N z r A R y1 y2 y4 y6 y7 Q := by
  obtain ⟨c1, c2, c3, c4⟩ := cq_wc X
  have o := cq_o3 X
  have hb := cq_w_b h
  have x4 := X.2.2.2.1
  have g7 := (X.2.2.2.2.2.2.2.2.2.2.1 _ x4).2.1
  have main : ∀ (t : Nat) (t0 x8 : Int), t < 2 → t0 = (t : Int) → hz_rI x8 → wp_c5_goThroughChoice_26 L K N z r A R y1 y2 y4 y6 y7 x8 t0 Q := by
    intro t t0 x8 ht et0 rx8
    have et : t0.toNat = t := by omega
    have at66 : ∀ (z1 : Nat → Nat → Int) (p1 : Nat) (dd : Int), (∀ a, a ≠ r R 2 → a ≠ R → z1 a = z a) → cq_w L K r c n z1 A R p1 → cq_A c n 2 st 0 p1 → cq_d r z1 A (cw_g K (r (r R 3) 1) t) (P t) dd → wp_c5_goThroughChoice_66 L K N z1 r A R y1 y2 y4 y6 y7 x8 t0 (cw_g K (r (r R 3) 1) t) dd y4 x8 (cw_g K (r (r R 3) 1) t) R Q := by
      intro z1 p1 dd of1 hw1 a1 hdd
      have D1 := cq_D_z X D of1
      refine ⟨X.1, wq_c5_enterSet X D1 hw1.1 ht rx8 (by omega) hdd (fun x z2 A2 hx hy4 D2 M2 ez eR ea eg => ⟨by have := (D2.2.2.1 t ht).1; omega, fun _ => ⟨X.1, x4, c1, by omega, by omega, fun A3 e3 => ⟨X.2.1, ?_⟩⟩, fun q => by omega⟩) (fun z2 A2 e => ⟨by decide, fun q => absurd rfl q, fun _ => h0 z2 A2 e⟩)⟩
      have hx10 : x < 10 := by have := (D2.2.2.1 t ht).1; omega
      have w2 : cq_w L K r c n z2 A2 R p1 := cq_w_keep hw1 ez ea ⟨by rw [eR], by rw [eR]⟩
      have N2 : cq_n r A2 R E 1 := by
        unfold cq_n at N1 ⊢
        rw [eg]
        exact N1
      obtain ⟨N3, rv⟩ := cq_n_3 N2 e3
      obtain ⟨D3, M3, w3⟩ := cq_cnt X D2 w2 e3 rv
      have M23 : cq_M K r z A z2 A3 R := cq_M_trans (cq_M_trans (cq_M_z X of1) M2) M3
      refine cq_adv w3 a1 (Or.inl (by decide)) (fun z4 d4 st4 e4 p4 o4 hw4 s4 a4 => ?_)
      obtain ⟨q1, q2, q3, q4⟩ := cq_2 s4
      rw [q1, q2, q4] at a4
      have of4 : ∀ a, a ≠ r R 2 → a ≠ R → z4 a = z2 a := fun a a1 _ => o4 a a1
      have D4 := cq_D_z X D3 of4
      have M4 : cq_M K r z A z4 A3 R := cq_M_trans M23 (cq_M_z X of4)
      have hx4 : x < z4 (cw_g K (r (r R 3) 1) t) 0 := by rw [of4 _ (o.2.2.2.2 t ht).2.2 (o.2.2.2.2 t ht).1]; exact hx.2
      intro PP hPP
      have fin : ∀ (j : Nat) (z5 A5 : Nat → Nat → Int) (E5 : Int) (p5 : Nat) (x12 : Int), 1 ≤ j → j ≤ 400 → x12 = (j : Int) → cq_D L K r ρ R z0 A0 (cq_P P t x (j : Int)) (cq_O O t x) E5 z5 A5 → cq_n r A5 R E5 0 → cq_M K r z A z5 A5 R → x < z5 (cw_g K (r (r R 3) 1) t) 0 → cq_w L K r c n z5 A5 R p5 → cq_A c n 10 (0 :: st) 0 p5 → (x12 ≤ 4 → z5 (r R 2) 2 = 41) → wp_c5_goThroughChoice_198 L K N z5 r A5 R x8 (cw_g K (r (r R 3) 1) t) x x12 Q := by
        intro j z5 A5 E5 p5 x12 hj1 hj e12 D5 N5 M5 hx5 w5 a5 k41
        refine ⟨X.1, X.2.1, cq_adv w5 a5 (Or.inr (by simp)) (fun z6 d6 st6 e6 p6 o6 hw6 s6 a6 => ?_)⟩
        have of6 : ∀ a, a ≠ r R 2 → a ≠ R → z6 a = z5 a := fun a a1 _ => o6 a a1
        have D6 := cq_D_z X D5 of6
        have hx6 : x < z6 (cw_g K (r (r R 3) 1) t) 0 := by rw [of6 _ (o.2.2.2.2 t ht).2.2 (o.2.2.2.2 t ht).1]; exact hx5
        rw [← e12] at D6
        refine wq_c5_endChoice X D6 hw6.1 ht rx8 ⟨hx.1, hx6⟩ (by omega) (fun m4 A7 D7 M7 tx cn => ⟨Or.inr rfl, ?_⟩) (fun z' A' e => ⟨Or.inl rfl, h0 z' A' e⟩)
        have k41 := k41 m4
        obtain ⟨q1, q2⟩ := cq_10 s6
        rcases q2 with ⟨-, ⟨x', hx'⟩, qd⟩ | ⟨qk, -⟩
        · have hs3 : st = st6 := List.tail_eq_of_cons_eq hx'
          rw [← hs3, qd, q1] at a6
          refine h1 E5 z6 A7 p6 D7 ?_ (cq_M_trans (cq_M_trans M5 (cq_M_z X of6)) M7) (cq_w_keep hw6 rfl tx ⟨rfl, rfl⟩) a6
          unfold cq_n at N5 ⊢
          rw [cn]
          exact N5
        · omega
      have key : ∀ (k j : Nat) (z5 A5 : Nat → Nat → Int) (E5 d5 : Int) (st5 : List Int) (p5 : Nat) (x12 x13 : Int), j + k = 400 → x12 = (j : Int) → x13 = (j : Int) → ((d5 = 3 ∧ st5 = st ∧ j = 0) ∨ (d5 = 10 ∧ st5 = 0 :: st ∧ 1 ≤ j)) → cq_D L K r ρ R z0 A0 (cq_P P t x (j : Int)) (cq_O O t x) E5 z5 A5 → cq_n r A5 R E5 0 → cq_M K r z A z5 A5 R → x < z5 (cw_g K (r (r R 3) 1) t) 0 → cq_w L K r c n z5 A5 R p5 → cq_A c n d5 st5 0 p5 → PP z5 A5 x12 x13 := by
        intro k
        induction k with
        | zero =>
          intro j z5 A5 E5 d5 st5 p5 x12 x13 hk e12 e13 hd D5 N5 M5 hx5 w5 a5
          rcases hd with ⟨-, -, hj⟩ | ⟨hd, hs, hj⟩
          · omega
          · rw [hd, hs] at a5
            exact hPP z5 A5 x12 x13 ⟨by omega, fun _ => fin j z5 A5 E5 p5 x12 hj (by omega) e12 D5 N5 M5 hx5 w5 a5 (fun q => by omega), fun q => by omega⟩
        | succ k ih =>
          intro j z5 A5 E5 d5 st5 p5 x12 x13 hk e12 e13 hd D5 N5 M5 hx5 w5 a5
          obtain ⟨T5, hn5, hc5, b5, q5, w35, w55, hR5, hk5, -⟩ := id w5
          refine hPP z5 A5 x12 x13 ⟨by omega, fun q => by omega, fun _ => ⟨X.1, X.2.1, hk5, fun q41 => ?_, fun q41 => ?_⟩⟩
          · rcases hd with ⟨hd, hs, hj⟩ | ⟨hd, hs, hj⟩
            · rcases cq_inv a5 hR5 with ⟨k0, -⟩ | ⟨-, d', st', e', s, -⟩
              · omega
              · rw [hd] at s
                obtain ⟨-, -, q, -⟩ := cq_3 s
                omega
            · rw [hd, hs] at a5
              exact fin j z5 A5 E5 p5 x12 hj (by omega) e12 D5 N5 M5 hx5 w5 a5 (fun _ => q41)
          · have hd' : ¬ d5 = 10 ∨ ¬ st5 = [] := by
              rcases hd with ⟨hd, hs, hj⟩ | ⟨hd, hs, hj⟩
              · exact Or.inl (by omega)
              · exact Or.inr (by rw [hs]; simp)
            refine cq_adv w5 a5 hd' (fun z6 d6 st6 e6 p6 o6 hw6 s6 a6 => ?_)
            have s1 : d6 = 1 ∧ st6 = 0 :: st ∧ e6 = 0 := by
              rcases hd with ⟨hd, hs, hj⟩ | ⟨hd, hs, hj⟩
              · rw [hd, hs] at s6
                obtain ⟨q1, q2, -, q4⟩ := cq_3 s6
                exact ⟨q4, q1, q2⟩
              · rw [hd, hs] at s6
                obtain ⟨q1, q2⟩ := cq_10 s6
                rcases q2 with ⟨qk, -⟩ | ⟨-, q3, ⟨-, q5⟩ | ⟨⟨t, ht⟩, -⟩⟩
                · exact absurd qk q41
                · exact ⟨q5, q3, q1⟩
                · have h9 : (0 : Int) = 1 := List.head_eq_of_cons_eq ht
                  omega
            rw [s1.1, s1.2.1, s1.2.2] at a6
            have of6 : ∀ a, a ≠ r R 2 → a ≠ R → z6 a = z5 a := fun a a1 _ => o6 a a1
            have D6 := cq_D_mono (P' := cq_P P t x ((j + 1 : Nat) : Int)) (O' := cq_O O t x) (cq_D_z X D5 of6) (fun t' d hp => by
              rcases hp with hp | ⟨u1, u2, u3⟩
              · exact Or.inl hp
              · exact Or.inr ⟨u1, u2, by omega⟩) (fun _ _ h => h)
            have M6 : cq_M K r z A z6 A5 R := cq_M_trans M5 (cq_M_z X of6)
            have hx6 : x < z6 (cw_g K (r (r R 3) 1) t) 0 := by rw [of6 _ (o.2.2.2.2 t ht).2.2 (o.2.2.2.2 t ht).1]; exact hx5
            have at168 : ∀ (da db : Int), cq_d r z6 A5 (cw_g K (r (r R 3) 1) 0) (cq_P P t x ((j + 1 : Nat) : Int) 0) da → cq_d r z6 A5 (cw_g K (r (r R 3) 1) 1) (cq_P P t x ((j + 1 : Nat) : Int) 1) db → wp_c5_goThroughChoice_168 L K N z6 r A5 R y1 y2 y4 y6 y7 x8 t0 (cw_g K (r (r R 3) 1) t) x x12 x13 da db PP Q := by
              intro da db ka kb
              refine ⟨X.1, hN z6 A5 (cq_P P t x ((j + 1 : Nat) : Int)) (cq_O O t x) E5 (0 :: st) 0 p6 (y1 + 1) y2 y4 da db _ D6 N5 hw6 a6 (by omega) hy ka kb (fun E' z' A' p' D' N' M' w' a' => ⟨by decide, fun _ x12' e12' x13' e13' => ?_, fun q => absurd q (by decide)⟩) (fun z' A' e => ⟨by decide, fun q => absurd rfl q, fun _ => h0 z' A' e⟩)⟩
              exact ih (j + 1) z' A' E' 10 (0 :: st) p' x12' x13' (by omega) (by omega) (by omega) (Or.inr ⟨rfl, rfl, by omega⟩) D' N' (cq_M_trans M6 M') (by have := (M' t ht).1; omega) w' a'
            have kdeed : cq_d r z6 A5 (cw_g K (r (r R 3) 1) t) (cq_P P t x ((j + 1 : Nat) : Int) t) (x * 512 + x12) := Or.inr ⟨by omega, by omega, Or.inl (Or.inr ⟨rfl, by omega, by omega⟩)⟩
            have k6 : cq_d r z6 A5 (cw_g K (r (r R 3) 1) 0) (cq_P P t x ((j + 1 : Nat) : Int) 0) y6 := cq_d_mono h6 (M6 0 (by omega)).1 (M6 0 (by omega)).2 (fun _ h => Or.inl h)
            have k7 : cq_d r z6 A5 (cw_g K (r (r R 3) 1) 1) (cq_P P t x ((j + 1 : Nat) : Int) 1) y7 := cq_d_mono h7 (M6 1 (by omega)).1 (M6 1 (by omega)).2 (fun _ h => Or.inl h)
            refine wq_c7_deed ⟨hx.1, by omega⟩ (by omega) ⟨by omega, fun t1 => ⟨by omega, fun t2 => by omega, fun t2 => ?_⟩, fun t1 => ⟨by omega, fun t2 => ?_, fun t2 => by omega⟩⟩
            · have e1 : t = 1 := by omega
              subst e1
              exact at168 y6 _ k6 kdeed
            · have e1 : t = 0 := by omega
              subst e1
              exact at168 _ y7 kdeed k7
      exact key 400 0 z4 A3 E 3 st p4 0 0 rfl rfl rfl (Or.inl ⟨rfl, rfl, rfl⟩) (cq_D_mono D4 (fun _ _ h => Or.inl h) (fun _ _ h => h)) N3 M4 hx4 hw4 a4
    refine ⟨X.1, x4, g7.1, by have := g7.2.1; omega, X.2.1, cq_adv h a (Or.inl (by decide)) (fun z1 d1 st1 e1 p1 o1 hw1 s1 a1 => ?_)⟩
    obtain ⟨q1, q2⟩ := cq_1 s1
    rw [q1, show d1 = 2 by omega, show e1 = 0 by omega] at a1
    have of1 : ∀ a, a ≠ r R 2 → a ≠ R → z1 a = z a := fun a a1 _ => o1 a a1
    have M1 : cq_M K r z A z1 A R := cq_M_z X of1
    rw [et]
    refine ⟨by omega, fun t1 => ?_, fun t1 => ?_⟩
    · have e1 : t = 1 := by omega
      subst e1
      exact at66 z1 p1 y7 of1 hw1 a1 (cq_d_mono h7 (M1 1 (by omega)).1 (M1 1 (by omega)).2 (fun _ h => h))
    · have e1 : t = 0 := by omega
      subst e1
      exact at66 z1 p1 y6 of1 hw1 a1 (cq_d_mono h6 (M1 0 (by omega)).1 (M1 0 (by omega)).2 (fun _ h => h))
  exact ⟨X.1, X.2.1, fun x8 e8 => ⟨hb.2.1, fun _ => main 1 1 x8 (by omega) rfl (by omega), fun _ => main 0 0 x8 (by omega) rfl (by omega)⟩⟩
theorem wq_c5_goThroughNode {N : ((Nat → Nat → Int) → (Nat → Nat → Int) → Nat → Int → Int → Int → Int → Int → (Int → (Nat → Nat → Int) → (Nat → Nat → Int) → Prop) → Prop)} {m : Nat} (X : cq_X L K r w ρ R) (hN : cq_N L K r ρ R z0 A0 c n N m) : cq_N L K r ρ R z0 A0 c n (fun z A y0 y1 y2 y4 y6 y7 Q => wp_c5_goThroughNode L K N z r A y0 y1 y2 y4 y6 y7 Q) (m + 1) := by
  intro z A P O E st e p y1 y2 y4 y6 y7 Q D N0 h a hy1 hy h6 h7 h1 h0
  obtain ⟨c1, c2, c3, c4⟩ := cq_wc X
  have hb := cq_w_b h
  have no : wp_c5_goThroughNode_21 L K N z r A R Q := ⟨X.1, X.2.1, wq_c5_refuse X D.1 D.2.1 h.1 (by decide) (by omega) (fun z' e => ⟨Or.inl rfl, h0 z' A e⟩)⟩
  refine ⟨X.1, X.2.2.2.1, c1, by omega, (D.2.1.2 _).1 c1 _, fun _ => no, fun l400 => ⟨by omega, fun l20 => ⟨by omega, by omega, fun A1 eA => ?_⟩, fun _ => no⟩⟩
  obtain ⟨N1, rv⟩ := cq_n_0 N0 l400 eA
  obtain ⟨D1, M1, w1⟩ := cq_cnt X D h eA rv
  have k6 : cq_d r z A1 (cw_g K (r (r R 3) 1) 0) (P 0) y6 := cq_d_mono h6 (M1 0 (by omega)).1 (M1 0 (by omega)).2 (fun _ h => h)
  have k7 : cq_d r z A1 (cw_g K (r (r R 3) 1) 1) (P 1) y7 := cq_d_mono h7 (M1 1 (by omega)).1 (M1 1 (by omega)).2 (fun _ h => h)
  refine ⟨X.2.1, hb.2.1, fun k63 => ?_, fun n63 => ⟨fun k91 => ?_, fun n91 => ?_⟩⟩
  · exact wq_c5_goThroughDraw X hN D1 N1 w1 a k63 (by omega) hy k6 k7 (fun E' z' A' p' D' N' M' w' a' => ⟨Or.inr rfl, h1 E' z' A' p' D' N' (cq_M_trans M1 M') w' a'⟩) (fun z' A' e => ⟨Or.inl rfl, h0 z' A' e⟩)
  · exact wq_c5_goThroughEnd X D1 N1 w1 a k91 hy k6 k7 (fun z' A' p' D' N' M' w' a' => ⟨Or.inr rfl, h1 (E + 1) z' A' p' D' N' (cq_M_trans M1 M') w' a'⟩) (fun z' A' e => ⟨Or.inl rfl, h0 z' A' e⟩)
  · exact wq_c5_goThroughChoice X hN D1 N1 w1 a ⟨n63, n91⟩ (by omega) hy k6 k7 (fun E' z' A' p' D' N' M' w' a' => ⟨Or.inr rfl, h1 E' z' A' p' D' N' (cq_M_trans M1 M') w' a'⟩) (fun z' A' e => ⟨Or.inl rfl, h0 z' A' e⟩)
theorem cq_node (X : cq_X L K r w ρ R) (m : Nat) : cq_N L K r ρ R z0 A0 c n (wp_c5_node L K r m) m := by
  induction m with
  | zero =>
    intro z A P O E st e p y1 y2 y4 y6 y7 Q D N0 h a hy1
    omega
  | succ m ih => exact wq_c5_goThroughNode X ih
end CK
