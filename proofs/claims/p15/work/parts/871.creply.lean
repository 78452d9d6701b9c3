section CP
variable {L : List Nat} {K : Nat → cw_K} {r : Nat → Nat → Nat} {z A : Nat → Nat → Int} {w : Nat → Nat × Nat} {ρ : Nat → Nat} {S : Nat → Prop} {P g : Nat}
/-- the weight at line i of player q and line j of the other -/
noncomputable def cg_w (K : Nat → cw_K) (r : Nat → Nat → Nat) (A : Nat → Nat → Int) (g : Nat) (q : Int) (i j : Nat) : Int := if q = 0 then A (cw_g K (r g 3) i) j else A (cw_g K (r g 3) j) i
theorem cg_w_keep {z' A' : Nat → Nat → Int} {q : Int} {i j : Nat} (h2 : cg_2 L K r w ρ) (hg0 : cw_O L K 2 g) (hF : cF ρ S z A z' A') (hg : ¬ S (ρ g)) (hi : i < 20) (hj : j < 20) : cg_w K r A' g q i j = cg_w K r A g q i j := by
  obtain ⟨-, -, ⟨w1, w2, w3⟩⟩ := h2 g hg0
  have ei := (hF (cw_g K (r g 3) i) (by rw [(w3 i hi).2.2.2]; exact hg)).2
  have ej := (hF (cw_g K (r g 3) j) (by rw [(w3 j hj).2.2.2]; exact hg)).2
  unfold cg_w
  rw [ei, ej]
theorem wz_c2_weight {q i j : Int} (h2 : cg_2 L K r w ρ) (hF : cg_F L K r z A g) (hq : q = 0 ∨ q = 1) (hi : 0 ≤ i ∧ i < 20) (hj : 0 ≤ j ∧ j < 20) {Q : Int → Prop} (hQ : ∀ x : Int, (x.natAbs : Int) ≤ 400000000000 → x = cg_w K r A g q i.toNat j.toNat → Q x) : wp_c2_weight L K z r A g q i j Q := by
  obtain ⟨f1, f2, f3, f4, f5⟩ := hF
  obtain ⟨-, -, ⟨w1, w2, w3⟩⟩ := h2 g f1
  refine ⟨by omega, fun c => ⟨f1, w1, by omega, (w3 j.toNat (by omega)).1, by rw [(w3 j.toNat (by omega)).2.1]; omega, ?_⟩, fun c => ⟨f1, w1, by omega, (w3 i.toNat (by omega)).1, by rw [(w3 i.toNat (by omega)).2.1]; omega, ?_⟩⟩
  · exact hQ _ (by have := cg_W_le (K := K) (r := r) (A := A) (g := g) (i := j.toNat) (j := i.toNat) (by omega) (by omega); omega) (by unfold cg_w; rw [if_neg c])
  · exact hQ _ (by have := cg_W_le (K := K) (r := r) (A := A) (g := g) (i := i.toNat) (j := j.toNat) (by omega) (by omega); omega) (by unfold cg_w; rw [if_pos c])
/-- what line i of player q gets against the shares at x -/
noncomputable def cg_v (K : Nat → cw_K) (r : Nat → Nat → Nat) (z A : Nat → Nat → Int) (g x : Nat) (q : Int) (n i : Nat) : Int := cS (fun j => cg_w K r A g q i j * cb_v r z A (cw_g K x j)) n
theorem wz_c6_gather {m : Nat} {q M : Int} (h : cJ L K r z A) (h1 : cg_1 L K r w ρ) (h2 : cg_2 L K r w ρ) (h3 : cg_3 L K r w ρ) (h6 : cg_6 L K r w ρ) (h7 : cg_7 L K r w ρ) (hP : cw_O L K 6 P) (hPS : S (ρ P)) (hF : cg_F L K r z A g) (hg : ¬ S (ρ g)) (hq : q = 0 ∨ q = 1) (hm : cw_O L K 3 m) (hmS : ¬ S (ρ m)) (hM : cm_M K r z A (r m 0) M) (hM0 : 0 ≤ M) (hfit : 10000000000000 * M < 4294967296 ^ 32) {Q : (Nat → Nat → Int) → (Nat → Nat → Int) → Prop} (hQ : ∀ z' A' : Nat → Nat → Int, cJ L K r z' A' → cF ρ S z A z' A' → (∀ i : Nat, (i : Int) < z (cw_g K (r g 1) q.toNat) 5 → cb_u r z' A' (cw_g K (r P 2) i) ≤ 8000000000000 * M) → (∀ i : Nat, (i : Int) < z (cw_g K (r g 1) q.toNat) 5 → cb_v r z' A' (cw_g K (r P 2) i) = cg_v K r z A g (r m 0) q (z (cw_g K (r g 1) (1 - q).toNat) 5).toNat i) → Q z' A') : wp_c6_gather L K z r A P g q m Q := by
  obtain ⟨-, -, ⟨l1, l2, l3, l4⟩, ⟨f1, f2, f3, f4⟩, ⟨t1, t2, t3, t4⟩⟩ := h6 P hP
  obtain ⟨⟨p1, p2, p3, p4⟩, -⟩ := h3 m hm
  have hg0 := hF.1
  obtain ⟨-, ⟨s1, s2, s3⟩, -⟩ := h2 g hg0
  have sq := s3 q.toNat (by omega)
  have so := s3 (1 - q).toNat (by omega)
  have Fq := cg_F_side hF hq
  have Fo := cg_F_side (q := 1 - q) hF (by omega)
  have nS : ∀ i, i < 2 → ¬ S (ρ (cw_g K (r g 1) i)) := fun i hi => by rw [(s3 i hi).2.2]; exact hg
  refine ⟨hg0, s1, by omega, so.1, fun x4 e4 => ?_⟩
  intro PP hPP
  -- one line of the player's
  have key : ∀ (k n : Nat) (z1 A1 : Nat → Nat → Int) (x : Int), n + (k : Int) = z (cw_g K (r g 1) q.toNat) 5 → x = (n : Int) → cJ L K r z1 A1 → cF ρ S z A z1 A1 → (∀ i, i < n → cb_u r z1 A1 (cw_g K (r P 2) i) ≤ 8000000000000 * M) → (∀ i, i < n → cb_v r z1 A1 (cw_g K (r P 2) i) = cg_v K r z A g (r m 0) q x4.toNat i) → PP z1 A1 x := by
    intro k
    induction k with
    | zero =>
      intro n z1 A1 x hk ex j1 F1 b1 val1
      have e0 : z1 (cw_g K (r g 1) q.toNat) 5 = z (cw_g K (r g 1) q.toNat) 5 := by rw [(F1 _ (nS _ (by omega))).1]
      have := Fq.2.2.1
      exact hPP z1 A1 x ⟨hg0, s1, by omega, sq.1, by omega, by omega, fun _ => hQ z1 A1 j1 F1 (fun i hi => b1 i (by omega)) (fun i hi => by rw [← e4]; exact val1 i (by omega)), fun c => by omega⟩
    | succ k ih =>
      intro n z1 A1 x hk ex j1 F1 b1 val1
      subst ex
      have e0 : z1 (cw_g K (r g 1) q.toNat) 5 = z (cw_g K (r g 1) q.toNat) 5 := by rw [(F1 _ (nS _ (by omega))).1]
      have ln := Fq.2.2.1
      have lo := Fo.2.2.1
      obtain ⟨g1, g2, g3, g4⟩ := l4 n (by omega)
      have gS : S (ρ (cw_g K (r P 2) n)) := by rw [g4]; exact hPS
      have e9 : ((n : Int)).toNat = n := by omega
      have gr : r P 2 ≠ P := Ne.symm (cw_OG_ne hP l1)
      have ng_t : r P 4 ≠ cw_g K (r P 2) n := cg_ne t3 g3 (by simp; intro e; exact absurd e.symm gr)
      have ng_f : r P 3 ≠ cw_g K (r P 2) n := cg_ne f3 g3 (by simp; intro e; exact absurd e.symm gr)
      have ntf : r P 3 ≠ r P 4 := cg_ne f3 t3 (by simp)
      refine hPP z1 A1 n ⟨hg0, s1, by omega, sq.1, by omega, by omega, fun c => by omega, fun _ => ⟨hP, l1, by omega, by rw [e9]; exact g1, ?_⟩⟩
      rw [e9]
      refine wq_c0_put j1.1 g1 (by omega) (fun z2 A2 k2 hY2 hv2 _ => ?_)
      have j2 := cJ_Y j1 g1 k2 hY2
      have F2 : cF ρ S z A z2 A2 := cF_trans F1 (cF_Y h1 g1 gS hY2)
      have u2 : cb_u r z2 A2 (cw_g K (r P 2) n) = 0 := by
        have e := (cb_v0 (k2.2 _ g1) k2.1 g1).mpr hv2
        exact (cb_u0 (k2.2 _ g1) k2.1 g1).mp e
      have oth : ∀ (z3 A3 z4 A4 : Nat → Nat → Int) (c : Nat), cb_S L K r A3 → cw_O L K 0 c → cb_Y r c z3 A3 z4 A4 → (∀ i, i < n → cw_g K (r P 2) i ≠ c) → (∀ i, i < n → cb_u r z3 A3 (cw_g K (r P 2) i) ≤ 8000000000000 * M) → ∀ i, i < n → cb_u r z4 A4 (cw_g K (r P 2) i) ≤ 8000000000000 * M := by
        intro z3 A3 z4 A4 c hS3 hc hY hne hb i hi
        rw [(cb_k_other hS3 hc (l4 i (by omega)).1 (hne i hi) hY).2.1]
        exact hb i hi
      have otv : ∀ (z3 A3 z4 A4 : Nat → Nat → Int) (c : Nat), cb_S L K r A3 → cw_O L K 0 c → cb_Y r c z3 A3 z4 A4 → (∀ i, i < n → cw_g K (r P 2) i ≠ c) → (∀ i, i < n → cb_v r z3 A3 (cw_g K (r P 2) i) = cg_v K r z A g (r m 0) q x4.toNat i) → ∀ i, i < n → cb_v r z4 A4 (cw_g K (r P 2) i) = cg_v K r z A g (r m 0) q x4.toNat i := by
        intro z3 A3 z4 A4 c hS3 hc hY hne hb i hi
        rw [(cb_k_other hS3 hc (l4 i (by omega)).1 (hne i hi) hY).2.2]
        exact hb i hi
      have val2 := otv z1 A1 z2 A2 _ j1.1.1 g1 hY2 (fun i hi => cg_ne (l4 i (by omega)).2.2.1 g3 (by simp; omega)) val1
      have b2 := oth z1 A1 z2 A2 _ j1.1.1 g1 hY2 (fun i hi => cg_ne (l4 i (by omega)).2.2.1 g3 (by simp; omega)) b1
      intro P2 hP2
      have inner : ∀ (k2 j : Nat) (z3 A3 : Nat → Nat → Int) (i : Int), j + (k2 : Int) = x4 → i = (j : Int) → cJ L K r z3 A3 → cF ρ S z A z3 A3 → (∀ i, i < n → cb_u r z3 A3 (cw_g K (r P 2) i) ≤ 8000000000000 * M) → cb_u r z3 A3 (cw_g K (r P 2) n) ≤ 400000000000 * M * (j : Int) → (∀ i, i < n → cb_v r z3 A3 (cw_g K (r P 2) i) = cg_v K r z A g (r m 0) q x4.toNat i) → cb_v r z3 A3 (cw_g K (r P 2) n) = cg_v K r z A g (r m 0) q j n → P2 z3 A3 i := by
        intro k2
        induction k2 with
        | zero =>
          intro j z3 A3 i hj ei j3 F3 b3 u3 val3 vn3
          refine hP2 z3 A3 i ⟨by omega, by omega, fun _ x1 e1 => ih (n + 1) z3 A3 x1 (by omega) (by omega) j3 F3 (fun i hi => ?_) (fun i hi => by
            by_cases hin : i = n
            · rw [hin, vn3, show x4.toNat = j by omega]
            · exact val3 i (by omega)), fun c => by omega⟩
          by_cases hin : i = n
          · rw [hin]
            have : 400000000000 * M * (j : Int) ≤ 400000000000 * M * 20 := Int.mul_le_mul_of_nonneg_left (by omega) (by omega)
            omega
          · exact b3 i (by omega)
        | succ k2 ih2 =>
          intro j z3 A3 i hj ei j3 F3 b3 u3 val3 vn3
          subst ei
          have e8 : ((j : Int)).toNat = j := by omega
          obtain ⟨a1, a2, a3, a4⟩ := p4 j (by omega)
          have jm : 400000000000 * M * ((j + 1 : Nat) : Int) = 400000000000 * M * (j : Int) + 400000000000 * M := by rw [Int.natCast_add, Int.mul_add]; simp
          have jb : 400000000000 * M * (j : Int) ≤ 400000000000 * M * 19 := Int.mul_le_mul_of_nonneg_left (by omega) (by omega)
          refine hP2 z3 A3 j ⟨by omega, by omega, fun c => by omega, fun _ => ⟨hg0, wz_c2_weight h2 (cg_F_keep h2 h7 hF F3 hg) hq (by omega) (by omega) (fun v hv ev => ⟨by omega, fun v0 x1 e1 => ih2 (j + 1) z3 A3 x1 (by omega) (by omega) j3 F3 b3 (by omega) val3 (by
            rw [vn3]
            rw [e9, e8, cg_w_keep h2 hg0 F3 hg (by omega) (by omega)] at ev
            show _ = cg_v K r z A g (r m 0) q j n + cg_w K r A g q n j * cb_v r z A (cw_g K (r m 0) j)
            rw [← ev, v0]
            omega), fun hv0 => ⟨hP, f1, ?_⟩⟩)⟩⟩
          rw [e9, e8, cg_w_keep h2 hg0 F3 hg (by omega) (by omega)] at ev
          refine wq_c0_put j3.1 f1 (by omega) (fun z4 A4 k4 hY4 hv4 hl4 => ⟨hm, p1, by omega, t1, ?_⟩)
          rw [e8]
          have j4 := cJ_Y j3 f1 k4 hY4
          have F4 : cF ρ S z A z4 A4 := cF_trans F3 (cF_Y h1 f1 (by rw [f4]; exact hPS) hY4)
          have um : cb_u r z4 A4 (cw_g K (r m 0) j) ≤ M := by
            rw [(cF_big h1 F4 a1 (by rw [a4]; exact hmS)).1]
            exact hM j (by omega)
          have rm : ∀ c, ρ c = ρ P → cw_g K (r m 0) j ≠ c := fun c hc e => hmS (by rw [← a4, e, hc]; exact hPS)
          have ka := (j4.1.2 _ a1).1
          have kf := (j4.1.2 _ f1).1
          refine wq_c0_putProduct j4.1 t1 a1 f1 (rm _ t4) ntf (by omega) (fun z5 A5 k5 hY5 hv5 _ => ⟨l1, by omega, by rw [e9]; exact g1, ?_⟩)
          rw [e9]
          have j5 := cJ_Y j4 t1 k5 hY5
          have F5 : cF ρ S z A z5 A5 := cF_trans F4 (cF_Y h1 t1 (by rw [t4]; exact hPS) hY5)
          have ut : cb_u r z5 A5 (r P 4) ≤ 400000000000 * M := by
            have e1 : cb_u r z5 A5 (r P 4) = ((cb_v r z5 A5 (r P 4)).natAbs : Int) := by
              have := cb_u_nn r z5 A5 (r P 4)
              unfold cb_v
              split <;> omega
            have e2 : ((cb_v r z4 A4 (cw_g K (r m 0) j)).natAbs : Int) = cb_u r z4 A4 (cw_g K (r m 0) j) := by
              have := cb_u_nn r z4 A4 (cw_g K (r m 0) j)
              unfold cb_v
              split <;> omega
            rw [e1, hv5, Int.natAbs_mul, Int.natCast_mul, e2, hv4, Int.mul_comm 400000000000 M]
            exact Int.mul_le_mul um hv (by omega) hM0
          have ug : cb_u r z5 A5 (cw_g K (r P 2) n) = cb_u r z3 A3 (cw_g K (r P 2) n) := by
            rw [(cb_k_other j4.1.1 t1 g1 (Ne.symm ng_t) hY5).2.1, (cb_k_other j3.1.1 f1 g1 (Ne.symm ng_f) hY4).2.1]
          refine wq_c0_plus j5.1 g1 t1 ng_t ?_ (fun z6 A6 k6 hY6 hv6 x1 e1 => ?_)
          · rw [g2, ug]
            omega
          · have un6 : cb_u r z6 A6 (cw_g K (r P 2) n) ≤ cb_u r z5 A5 (cw_g K (r P 2) n) + cb_u r z5 A5 (r P 4) := by
              have a6 := cb_u_nn r z6 A6 (cw_g K (r P 2) n)
              have a5 := cb_u_nn r z5 A5 (cw_g K (r P 2) n)
              have at5 := cb_u_nn r z5 A5 (r P 4)
              unfold cb_v at hv6
              split at hv6 <;> split at hv6 <;> split at hv6 <;> omega
            have np : ∀ i, i < n → cw_g K (r P 2) i ≠ cw_g K (r P 2) n := fun i hi => cg_ne (l4 i (by omega)).2.2.1 g3 (by simp; omega)
            have npt : ∀ i, i < n → cw_g K (r P 2) i ≠ r P 4 := fun i hi => cg_ne (l4 i (by omega)).2.2.1 t3 (by simp; intro e; exact absurd e gr)
            have npf : ∀ i, i < n → cw_g K (r P 2) i ≠ r P 3 := fun i hi => cg_ne (l4 i (by omega)).2.2.1 f3 (by simp; intro e; exact absurd e gr)
            have vm : cb_v r z4 A4 (cw_g K (r m 0) j) = cb_v r z A (cw_g K (r m 0) j) := (cF_big h1 F4 a1 (by rw [a4]; exact hmS)).2.1
            have vg : cb_v r z5 A5 (cw_g K (r P 2) n) = cb_v r z3 A3 (cw_g K (r P 2) n) := by
              rw [(cb_k_other j4.1.1 t1 g1 (Ne.symm ng_t) hY5).2.2, (cb_k_other j3.1.1 f1 g1 (Ne.symm ng_f) hY4).2.2]
            have vn6 : cb_v r z6 A6 (cw_g K (r P 2) n) = cg_v K r z A g (r m 0) q (j + 1) n := by
              show _ = cg_v K r z A g (r m 0) q j n + cg_w K r A g q n j * cb_v r z A (cw_g K (r m 0) j)
              rw [hv6, vg, vn3, hv5, vm, hv4, ← ev, Int.mul_comm v]
            refine ih2 (j + 1) z6 A6 x1 (by omega) (by omega) (cJ_Y j5 g1 k6 hY6) (cF_trans F5 (cF_Y h1 g1 gS hY6)) (oth z5 A5 z6 A6 _ j5.1.1 g1 hY6 np (oth z4 A4 z5 A5 _ j4.1.1 t1 hY5 npt (oth z3 A3 z4 A4 _ j3.1.1 f1 hY4 npf b3))) (by omega) (otv z5 A5 z6 A6 _ j5.1.1 g1 hY6 np (otv z4 A4 z5 A5 _ j4.1.1 t1 hY5 npt (otv z3 A3 z4 A4 _ j3.1.1 f1 hY4 npf val3))) vn6
      exact inner x4.toNat 0 z2 A2 0 (by omega) rfl j2 F2 b2 (by rw [u2]; simp) val2 (by rw [hv2]; rfl)
  exact key (z (cw_g K (r g 1) q.toNat) 5).toNat 0 z A 0 (by have := Fq.2.2.1; omega) rfl h (cF_refl _ _ _ _) (fun i hi => by omega) (fun i hi => by omega)
theorem wz_c6_bestMove {s : Nat} {i d : Int} (h : cJ L K r z A) (h6 : cg_6 L K r w ρ) (h7 : cg_7 L K r w ρ) (hP : cw_O L K 6 P) (hF : cs_F L K r z A s) (hi : 0 ≤ i ∧ i < z s 0) (hd : d = 1 ∨ d = -1) {Q : Int → Prop} (hQ : ∀ x : Int, 0 ≤ x → x < A (r s 2) i.toNat → (∀ k : Int, 0 ≤ k → k < A (r s 2) i.toNat → d * cb_v r z A (cw_g K (r P 2) (A (r s 6) i.toNat + k).toNat) ≤ d * cb_v r z A (cw_g K (r P 2) (A (r s 6) i.toNat + x).toNat) ∧ (k < x → d * cb_v r z A (cw_g K (r P 2) (A (r s 6) i.toNat + k).toNat) < d * cb_v r z A (cw_g K (r P 2) (A (r s 6) i.toNat + x).toNat))) → Q x) : wp_c6_bestMove L K z r A P s i d Q := by
  obtain ⟨hs, f2, f3, f4⟩ := hF
  obtain ⟨-, ⟨m1, m2, m3, m4⟩, -, -, ⟨l1, l2, l3, l4⟩, -⟩ := h7 s hs
  obtain ⟨-, -, ⟨a1, a2, a3, a4⟩, -, -⟩ := h6 P hP
  have fi := f4 i.toNat (by omega)
  intro PP hPP
  have key : ∀ (k : Nat) (b j : Int), j + (k : Int) = A (r s 2) i.toNat → 1 ≤ j → 0 ≤ b → b < A (r s 2) i.toNat → b < j → (∀ k : Int, 0 ≤ k → k < j → d * cb_v r z A (cw_g K (r P 2) (A (r s 6) i.toNat + k).toNat) ≤ d * cb_v r z A (cw_g K (r P 2) (A (r s 6) i.toNat + b).toNat) ∧ (k < b → d * cb_v r z A (cw_g K (r P 2) (A (r s 6) i.toNat + k).toNat) < d * cb_v r z A (cw_g K (r P 2) (A (r s 6) i.toNat + b).toNat))) → PP b j := by
    intro k
    induction k with
    | zero =>
      intro b j hk j1 b0 b1 bj best
      exact hPP b j ⟨hs, m1, by omega, by omega, by omega, fun _ => hQ b b0 b1 (fun k k0 k1 => best k k0 (by omega)), fun c => by omega⟩
    | succ k ih =>
      intro b j hk j1 b0 b1 bj best
      refine hPP b j ⟨hs, m1, by omega, by omega, by omega, fun c => by omega, fun _ => ⟨hP, l1, by omega, a1, by omega, by omega, by omega, (a4 _ (by omega)).1, wq_c0_order h.1 (a4 _ (by omega)).1 (a4 _ (by omega)).1 (fun x x1 x2 x3 x4 => ⟨by omega, by omega, fun c j2 e2 => ih b j2 (by omega) (by omega) b0 b1 (by omega) (fun k k0 k1 => ?_), fun c j2 e2 => ih j j2 (by omega) (by omega) (by omega) (by omega) (by omega) (fun k k0 k1 => ?_)⟩)⟩⟩
      · by_cases ek : k < j
        · exact best k k0 ek
        · have e : k = j := by omega
          rw [e]
          generalize cb_v r z A (cw_g K (r P 2) (A (r s 6) i.toNat + j).toNat) = u at *
          generalize cb_v r z A (cw_g K (r P 2) (A (r s 6) i.toNat + b).toNat) = v at *
          rcases hd with hd | hd <;> subst hd
          · exact ⟨by omega, fun q => by omega⟩
          · exact ⟨by omega, fun q => by omega⟩
      · have up : d * cb_v r z A (cw_g K (r P 2) (A (r s 6) i.toNat + b).toNat) < d * cb_v r z A (cw_g K (r P 2) (A (r s 6) i.toNat + j).toNat) := by
          generalize cb_v r z A (cw_g K (r P 2) (A (r s 6) i.toNat + j).toNat) = u at *
          generalize cb_v r z A (cw_g K (r P 2) (A (r s 6) i.toNat + b).toNat) = v at *
          rcases hd with hd | hd <;> subst hd
          · omega
          · omega
        by_cases ek : k < j
        · have q := (best k k0 ek).1
          exact ⟨by omega, fun _ => by omega⟩
        · have e : k = j := by omega
          rw [e]
          exact ⟨Int.le_refl _, fun q => by omega⟩
  exact key (A (r s 2) i.toNat - 1).toNat 0 1 (by omega) (by omega) (by omega) (by omega) (by omega) (fun k k0 k1 => by
    have e : k = 0 := by omega
    rw [e]
    exact ⟨Int.le_refl _, fun q => by omega⟩)
theorem wz_c6_dropUnreached {s : Nat} (h : cJ L K r z A) (hdg : ∀ a, cw_O L K 0 a → w (r a 0) = (a, 0)) (h6 : cg_6 L K r w ρ) (h7 : cg_7 L K r w ρ) (hP : cw_O L K 6 P) (hPS : S (ρ P)) (hF : cs_F L K r z A s) (hs' : ¬ S (ρ s)) {Q : (Nat → Nat → Int) → Prop} (hQ : ∀ A' : Nat → Nat → Int, cJ L K r z A' → cF ρ S z A z A' → (∀ a, a ≠ r P 0 → a ≠ r P 1 → A' a = A a) → (∃ R : Nat → Bool, rq_C (z s 0).toNat (A (r s 4)) (A' (r P 0)) R ∧ ∀ i, i < (z s 0).toNat → A' (r P 0) i = (if R i = true then A (r P 0) i else 0)) → Q A') : wp_c6_dropUnreached L K z r A P s Q := by
  obtain ⟨hs, f2, f3, f4⟩ := hF
  obtain ⟨-, -, -, ⟨e1, e2, e3, e4⟩, -, -⟩ := h7 s hs
  obtain ⟨⟨a1, a2, a3, a4⟩, ⟨b1, b2, b3, b4⟩, -, -, -⟩ := h6 P hP
  have da := cg_dig hdg a3 hP (by decide)
  have db := cg_dig hdg b3 hP (by decide)
  intro PP hPP
  have key : ∀ (k n : Nat) (A1 : Nat → Nat → Int) (x : Int), n + (k : Int) = z s 0 → x = (n : Int) → cJ L K r z A1 → cF ρ S z A z A1 → (∀ a, a ≠ r P 0 → a ≠ r P 1 → A1 a = A a) → (∀ i, n ≤ i → A1 (r P 0) i = A (r P 0) i) → (∀ i, i < n → (A1 (r P 1) i = 0 ∨ A1 (r P 1) i = 1) ∧ A1 (r P 0) i = (if A1 (r P 1) i = 1 then A (r P 0) i else 0) ∧ (A1 (r P 1) i = 1 ↔ (A (r s 4) i = -1 ∨ (A1 (r P 0) (A (r s 4) i / 512).toNat = A (r s 4) i % 512 ∧ A1 (r P 1) (A (r s 4) i / 512).toNat = 1)))) → PP A1 x := by
    intro k
    induction k with
    | zero =>
      intro n A1 x hk ex j1 F1 o1 up1 in1
      refine hPP A1 x ⟨hs, by omega, by omega, fun _ => hQ A1 j1 F1 o1 ⟨fun i => decide (A1 (r P 1) i = 1), fun i hi => ?_, fun i hi => ?_⟩, fun c => by omega⟩
      · show (decide (A1 (r P 1) i = 1) = true ↔ (A (r s 4) i = -1 ∨ (A1 (r P 0) (A (r s 4) i / 512).toNat = A (r s 4) i % 512 ∧ decide (A1 (r P 1) (A (r s 4) i / 512).toNat = 1) = true)))
        rw [decide_eq_true_eq, decide_eq_true_eq]
        exact (in1 i (by omega)).2.2
      · show A1 (r P 0) i = (if decide (A1 (r P 1) i = 1) = true then A (r P 0) i else 0)
        rw [(in1 i (by omega)).2.1]
        by_cases c : A1 (r P 1) i = 1
        · rw [if_pos c, if_pos (by rw [decide_eq_true_eq]; exact c)]
        · rw [if_neg c, if_neg (by rw [decide_eq_true_eq]; exact c)]
    | succ k ih =>
      intro n A1 x hk ex j1 F1 o1 up1 in1
      subst ex
      have fn0 := (f4 n (by omega)).2.2.2
      have ne01 : r P 0 ≠ r P 1 := cg_ne a3 b3 (by simp)
      have st : ∀ t : Int, (t = 0 ∨ t = 1) → (t = 1 ↔ (A (r s 4) n = -1 ∨ (A1 (r P 0) (A (r s 4) n / 512).toNat = A (r s 4) n % 512 ∧ A1 (r P 1) (A (r s 4) n / 512).toNat = 1))) → wp_c6_dropUnreached_60 L K z r A1 P s n t n (r P 1) PP Q := by
        intro t ht htt
        refine ⟨b1, by omega, ht, fun A2 e2' => ?_⟩
        have j2 : cJ L K r z A2 := by rw [e2']; exact cJ_st j1 b1 db ⟨by omega, by omega, by omega, fun _ => ht⟩
        have F2 : cF ρ S z A z A2 := cF_trans F1 (by rw [e2']; exact cF_st (by rw [b4]; exact hPS))
        have rg := (j2.2 (r P 1)).2.2.2 b1 ((n : Int)).toNat
        have c1 : A2 (r P 1) n = t := by
          rw [e2']
          have := hz_s_same (A := A1) (r P 1) (n : Int) t
          rwa [show ((n : Int)).toNat = n by omega] at this
        have c1o : ∀ i, i ≠ n → A2 (r P 1) i = A1 (r P 1) i := fun i hi => by rw [e2', hz_s_i (by omega)]
        have c0 : A2 (r P 0) = A1 (r P 0) := by rw [e2', hz_s_a ne01]
        have o2 : ∀ a, a ≠ r P 0 → a ≠ r P 1 → A2 a = A a := fun a h0 h1 => by rw [e2', hz_s_a h1]; exact o1 a h0 h1
        have tn : A2 (r P 1) ((n : Int)).toNat = t := by rw [show ((n : Int)).toNat = n by omega]; exact c1
        refine ⟨hP, b1, by omega, by omega, fun ct x1 ex1 => ih (n + 1) A2 x1 (by omega) (by omega) j2 F2 o2 (fun i hi => by rw [c0]; exact up1 i (by omega)) (fun i hi => ?_), fun ct => ⟨a1, by omega, fun A3 e3' x1 ex1 => ih (n + 1) A3 x1 (by omega) (by omega) ?_ (cF_trans F2 ?_) (fun a h0 h1 => by rw [e3', hz_s_a h0]; exact o2 a h0 h1) (fun i hi => by rw [e3', hz_s_i (by omega), c0]; exact up1 i (by omega)) (fun i hi => ?_)⟩⟩
        · rw [tn] at ct
          have t1 : t = 1 := by omega
          by_cases ein : i = n
          · rw [ein, c1, c0, up1 n (Nat.le_refl n), if_pos t1]
            refine ⟨by omega, rfl, ?_⟩
            rcases fn0 with q | ⟨q1, q2, q3⟩
            · exact ⟨fun _ => Or.inl q, fun _ => t1⟩
            · rw [c1o _ (by omega)]
              exact htt
          · obtain ⟨i1, i2, i3⟩ := in1 i (by omega)
            have fi0 := (f4 i (by omega)).2.2.2
            rw [c1o i ein, c0]
            refine ⟨i1, i2, ?_⟩
            rcases fi0 with q | ⟨q1, q2, q3⟩
            · exact ⟨fun _ => Or.inl q, fun _ => i3.mpr (Or.inl q)⟩
            · rw [c1o _ (by omega)]
              exact i3
        · rw [e3']; exact cJ_st j2 a1 da ⟨fun _ => by omega, by omega, by omega, by omega⟩
        · rw [e3']; exact cF_st (by rw [a4]; exact hPS)
        · rw [tn] at ct
          have t0 : t = 0 := by omega
          have k1 : A3 (r P 1) = A2 (r P 1) := by rw [e3', hz_s_a (Ne.symm ne01)]
          have k0 : A3 (r P 0) n = 0 := by
            rw [e3']
            have := hz_s_same (A := A2) (r P 0) (n : Int) 0
            rwa [show ((n : Int)).toNat = n by omega] at this
          have k0o : ∀ i, i ≠ n → A3 (r P 0) i = A1 (r P 0) i := fun i hi => by rw [e3', hz_s_i (by omega), c0]
          by_cases ein : i = n
          · rw [ein, k1, c1, k0, if_neg (show ¬ t = 1 by omega)]
            refine ⟨by omega, rfl, ?_⟩
            rcases fn0 with q | ⟨q1, q2, q3⟩
            · exact ⟨fun _ => Or.inl q, fun _ => htt.mpr (Or.inl q)⟩
            · rw [c1o _ (by omega), k0o _ (by omega)]
              exact htt
          · obtain ⟨i1, i2, i3⟩ := in1 i (by omega)
            have fi0 := (f4 i (by omega)).2.2.2
            rw [k1, c1o i ein, k0o i ein]
            refine ⟨i1, i2, ?_⟩
            rcases fi0 with q | ⟨q1, q2, q3⟩
            · exact ⟨fun _ => Or.inl q, fun _ => i3.mpr (Or.inl q)⟩
            · rw [c1o _ (by omega), k0o _ (by omega)]
              exact i3
      have ed : A1 (r s 4) = A (r s 4) := (F1 _ (by rw [e4]; exact hs')).2
      have fn := (f4 n (by omega)).2.2.2
      refine hPP A1 n ⟨hs, by omega, by omega, fun c => by omega, fun _ => ⟨e1, by omega, fun d hd => ?_⟩⟩
      rw [ed, show ((n : Int)).toNat = n by omega] at hd
      rw [← hd] at fn
      have dr : hz_rI d := by omega
      refine ⟨hP, dr, fun c => st 1 (by omega) ⟨fun _ => Or.inl (by rw [← hd]; exact c), fun _ => rfl⟩, fun c => ?_⟩
      have d0 : 0 ≤ d := by omega
      refine wq_c7_setOf dr (fun _ => ⟨b1, by omega, ?_, fun cr => st 0 (by omega) ⟨fun q => absurd q (by decide), fun q => ?_⟩, fun cr => wq_c7_setOf dr (fun _ => ⟨a1, by omega, wq_c7_moveOf dr (fun _ => ⟨(j1.2 (r P 0)).1 a1 _, by omega, fun cm => st 0 (by omega) ⟨fun q => absurd q (by decide), fun q => ?_⟩, fun cm => st 1 (by omega) ⟨fun _ => ?_, fun _ => rfl⟩⟩) d0⟩) d0⟩) d0
      · have := (j1.2 (r P 1)).2.2.2 b1 (d / 512).toNat
        omega
      · rw [← hd] at q
        rcases q with q | q
        · exact absurd q c
        · rw [q.2] at cr
          exact absurd cr (by decide)
      · rw [← hd] at q
        rcases q with q | q
        · exact absurd q c
        · exact absurd q.1 cm
      · rw [← hd]
        have := (j1.2 (r P 1)).2.2.2 b1 (d / 512).toNat
        exact Or.inr ⟨cm, by omega⟩
  exact key (z s 0).toNat 0 A 0 (by omega) rfl h (cF_refl _ _ _ _) (fun _ _ _ => rfl) (fun _ _ => rfl) (fun i hi => by omega)
/-- what a player looks for -/
noncomputable def cg_d (q : Int) : Int := if q = 0 then 1 else -1
theorem rq_V_congr {n : Nat} {N : Int} {m ln d p g g' x : Nat → Int} {R : Nat → Bool} (hL : rq_L n N m ln d p) (hx : rb_pl n m x) (h : ∀ l : Nat, (l : Int) < N → g l = g' l) : rq_V g ln x R n = rq_V g' ln x R n := by
  have l0 := hL.1
  unfold rq_V
  rw [h 0 (by omega)]
  congr 1
  refine cS_congr (fun s hs => ?_)
  have a := hL.2.1 s hs
  have b := hx s hs
  show (if R s = true then g (ln s + x s).toNat else 0) = (if R s = true then g' (ln s + x s).toNat else 0)
  rw [h (ln s + x s).toNat (by omega)]
/-- from set k on the best moves are taken -/
noncomputable def cg_K (n k : Nat) (N dir : Int) (m ln p mv : Nat → Int) (G : Nat → Nat → Int) : Prop := ∀ i, k ≤ i → i < n → (0 ≤ mv i ∧ mv i < m i) ∧ (∀ l : Nat, (l : Int) < N → G i l = G (i + 1) l + (if l = (p i).toNat then G (i + 1) (ln i + mv i).toNat else 0)) ∧ ∀ k' : Int, 0 ≤ k' → k' < m i → dir * G (i + 1) (ln i + k').toNat ≤ dir * G (i + 1) (ln i + mv i).toNat ∧ (k' < mv i → dir * G (i + 1) (ln i + k').toNat < dir * G (i + 1) (ln i + mv i).toNat)
theorem cg_K_G {n : Nat} {N dir : Int} {m ln p mv : Nat → Int} {G : Nat → Nat → Int} (h : cg_K n 0 N dir m ln p mv G) : rq_G n N m ln p mv (fun i l => dir * G i l) := fun i hi => by
  obtain ⟨a, b, c⟩ := h i (Nat.zero_le i) hi
  refine ⟨a, fun l hl => ?_, c⟩
  show dir * G i l = dir * G (i + 1) l + (if l = (p i).toNat then dir * G (i + 1) (ln i + mv i).toNat else 0)
  rw [b l hl, Int.mul_add]
  split
  · rfl
  · rw [Int.mul_zero]
theorem cg_K_up {n k : Nat} {N dir v : Int} {m ln p mv : Nat → Int} {G : Nat → Nat → Int} {H : Nat → Int} (h : cg_K n (k + 1) N dir m ln p mv G) (hv : 0 ≤ v ∧ v < m k) (hH : ∀ l : Nat, (l : Int) < N → H l = G (k + 1) l + (if l = (p k).toNat then G (k + 1) (ln k + v).toNat else 0)) (hb : ∀ k' : Int, 0 ≤ k' → k' < m k → dir * G (k + 1) (ln k + k').toNat ≤ dir * G (k + 1) (ln k + v).toNat ∧ (k' < v → dir * G (k + 1) (ln k + k').toNat < dir * G (k + 1) (ln k + v).toNat)) : cg_K n k N dir m ln p (lp_U mv k v) (lp_U G k H) := by
  intro i hi hin
  have g1 : lp_U G k H (i + 1) = G (i + 1) := lp_U_other (by omega)
  rw [g1]
  by_cases e : i = k
  · subst e
    rw [lp_U_same, lp_U_same]
    exact ⟨hv, hH, hb⟩
  · rw [lp_U_other e, lp_U_other e]
    exact h i (by omega) hin
theorem wz_c6_work {m : Nat} {q M : Int} (h : cJ L K r z A) (hdg : ∀ a, cw_O L K 0 a → w (r a 0) = (a, 0)) (h1 : cg_1 L K r w ρ) (h2 : cg_2 L K r w ρ) (h3 : cg_3 L K r w ρ) (h6 : cg_6 L K r w ρ) (h7 : cg_7 L K r w ρ) (hP : cw_O L K 6 P) (hPS : S (ρ P)) (hF : cg_F L K r z A g) (hg : ¬ S (ρ g)) (hq : q = 0 ∨ q = 1) (hm : cw_O L K 3 m) (hmS : ¬ S (ρ m)) (hM : cm_M K r z A (r m 0) M) (hM0 : 0 ≤ M) (hfit : 100000000000000000 * M < 4294967296 ^ 32) (hL : rq_L (z (cw_g K (r g 1) q.toNat) 0).toNat (z (cw_g K (r g 1) q.toNat) 5) (A (r (cw_g K (r g 1) q.toNat) 2)) (A (r (cw_g K (r g 1) q.toNat) 6)) (A (r (cw_g K (r g 1) q.toNat) 4)) (A (r (cw_g K (r g 1) q.toNat) 7))) {Q : (Nat → Nat → Int) → (Nat → Nat → Int) → Prop} (hQ : ∀ z' A' : Nat → Nat → Int, cJ L K r z' A' → cF ρ S z A z' A' → rb_B (z (cw_g K (r g 1) q.toNat) 0).toNat (A (r (cw_g K (r g 1) q.toNat) 2)) (fun x => rq_V (fun l => cg_d q * cg_v K r z A g (r m 0) q (z (cw_g K (r g 1) (1 - q).toNat) 5).toNat l) (A (r (cw_g K (r g 1) q.toNat) 6)) x (rq_R (A (r (cw_g K (r g 1) q.toNat) 4)) x (z (cw_g K (r g 1) q.toNat) 0).toNat) (z (cw_g K (r g 1) q.toNat) 0).toNat) (A' (r P 0)) → Q z' A') : wp_c6_work L K z r A P g q m Q := by
  have h6' := h6 P hP
  obtain ⟨⟨a1, a2, a3, a4⟩, -, ⟨l1, l2, l3, l4⟩, -, -⟩ := h6'
  have da := cg_dig hdg a3 hP (by decide)
  have hg0 := hF.1
  obtain ⟨-, ⟨s1, s2, s3⟩, -⟩ := h2 g hg0
  have sq := s3 q.toNat (by omega)
  have nS : ¬ S (ρ (cw_g K (r g 1) q.toNat)) := by rw [sq.2.2]; exact hg
  refine ⟨hP, wz_c6_gather h h1 h2 h3 h6 h7 hP hPS hF hg hq hm hmS hM hM0 (by omega) (fun z1 A1 j1 F1 b1 val1 => ⟨hg0, s1, by omega, sq.1, fun x ex => ?_⟩)⟩
  have Fq := cg_F_side hF hq
  obtain ⟨s, hs⟩ : ∃ s, s = cw_g K (r g 1) q.toNat := ⟨_, rfl⟩
  obtain ⟨gv, hgv⟩ : ∃ gv : Nat → Int, gv = fun l => cg_v K r z A g (r m 0) q (z (cw_g K (r g 1) (1 - q).toNat) 5).toNat l := ⟨_, rfl⟩
  have val1' : ∀ l : Nat, (l : Int) < z (cw_g K (r g 1) q.toNat) 5 → cb_v r z1 A1 (cw_g K (r P 2) l) = gv l := fun l hl => by rw [hgv]; exact val1 l hl
  have hQ' : ∀ z' A' : Nat → Nat → Int, cJ L K r z' A' → cF ρ S z A z' A' → rb_B (z (cw_g K (r g 1) q.toNat) 0).toNat (A (r (cw_g K (r g 1) q.toNat) 2)) (fun x => rq_V (fun l => cg_d q * gv l) (A (r (cw_g K (r g 1) q.toNat) 6)) x (rq_R (A (r (cw_g K (r g 1) q.toNat) 4)) x (z (cw_g K (r g 1) q.toNat) 0).toNat) (z (cw_g K (r g 1) q.toNat) 0).toNat) (A' (r P 0)) → Q z' A' := by rw [hgv]; exact hQ
  clear hQ val1
  rw [← hs] at sq nS b1 ex Fq hL val1' hQ' ⊢
  have e0 : z1 s 0 = z s 0 := by rw [(F1 _ nS).1]
  obtain ⟨-, ⟨m1, m2, m3, m4⟩, -, -, ⟨n1, n2, n3, n4⟩, ⟨p1, p2, p3, p4⟩⟩ := h7 s sq.1
  have f2 := Fq.2.1
  intro PP hPP
  have key : ∀ (k t : Nat) (z2 A2 : Nat → Nat → Int) (x : Int), k + t = (z s 0).toNat → x = (k : Int) - 1 → cJ L K r z2 A2 → cF ρ S z A z2 A2 → (∀ i : Nat, (i : Int) < z s 5 → cb_u r z2 A2 (cw_g K (r P 2) i) ≤ 8000000000000 * M * 2 ^ t) → (∃ (mv : Nat → Int) (G : Nat → Nat → Int), cg_K (z s 0).toNat k (z s 5) (cg_d q) (A (r s 2)) (A (r s 6)) (A (r s 7)) mv G ∧ (∀ l : Nat, (l : Int) < z s 5 → G (z s 0).toNat l = gv l ∧ G k l = cb_v r z2 A2 (cw_g K (r P 2) l)) ∧ ∀ i, k ≤ i → i < (z s 0).toNat → A2 (r P 0) i = mv i) → PP z2 A2 x := by
    intro k
    induction k with
    | zero =>
      intro t z2 A2 x hk ex j2 F2 b2 hmg
      refine hPP z2 A2 x ⟨by omega, fun _ => ⟨hP, ?_⟩, fun c => by omega⟩
      obtain ⟨mv, G, hK, hG, hmv⟩ := hmg
      refine wz_c6_dropUnreached j2 hdg h6 h7 hP hPS (cs_F_keep h7 Fq F2 nS) nS (fun A3 j3 F3 o3 hR => hQ' z2 A3 j3 (cF_trans F2 F3) ?_)
      obtain ⟨R, hR1, hR2⟩ := hR
      have e00 : z2 s 0 = z s 0 := by rw [(F2 _ nS).1]
      have e4' : A2 (r s 4) = A (r s 4) := (F2 _ (by rw [(h7 s sq.1).2.2.2.1.2.2.2]; exact nS)).2
      rw [e00, e4'] at hR1
      rw [e00] at hR2
      refine rq_best hL (cg_K_G hK) hR1 (fun i hi => by rw [hR2 i hi, hmv i (Nat.zero_le i) hi]) (fun y hy => ⟨_, rq_R_C (rq_L_d hL), ?_⟩)
      exact rq_V_congr hL hy (fun l hl => by show cg_d q * gv l = cg_d q * G (z s 0).toNat l; rw [(hG l hl).1])
    | succ k ih =>
      intro t z2 A2 x hk ex j2 F2 b2 hmg
      have F2q := cs_F_keep h7 Fq F2 nS
      have fk := Fq.2.2.2 k (by omega)
      have f3 := Fq.2.2.1
      have ek : x.toNat = k := by omega
      have e5 : z2 s 5 = z s 5 := by rw [(F2 _ nS).1]
      have e00 : z2 s 0 = z s 0 := by rw [(F2 _ nS).1]
      have em : A2 (r s 2) = A (r s 2) := (F2 _ (by rw [m4]; exact nS)).2
      have en : A2 (r s 6) = A (r s 6) := (F2 _ (by rw [n4]; exact nS)).2
      have ep : A2 (r s 7) = A (r s 7) := (F2 _ (by rw [p4]; exact nS)).2
      have pw : (2 : Int) ^ t ≤ 1024 := by
        have : (2 : Int) ^ t ≤ 2 ^ 10 := cn_pow (by omega)
        omega
      have pw0 : (0 : Int) < 2 ^ t := Int.pow_pos (by decide)
      have bt : 8000000000000 * M * 2 ^ t ≤ 8000000000000 * M * 1024 := Int.mul_le_mul_of_nonneg_left pw (by omega)
      have b1t : 8000000000000 * M * 2 ^ (t + 1) = 8000000000000 * M * 2 ^ t + 8000000000000 * M * 2 ^ t := by rw [Int.pow_succ, ← Int.mul_assoc]; omega
      have bt0 : 0 ≤ 8000000000000 * M * 2 ^ t := Int.mul_nonneg (by omega) (by omega)
      have main : ∀ d : Int, d = cg_d q → wp_c6_work_49 L K z2 r A2 P q s x d x s P x (r P 0) PP Q := by
        intro d hd
        have hd1 : d = 1 ∨ d = -1 := by rw [hd]; unfold cg_d; split; exact Or.inl rfl; exact Or.inr rfl
        refine ⟨hP, wz_c6_bestMove j2 h6 h7 hP F2q (by omega) hd1 (fun v v0 v1 vb => ⟨a1, by omega, fun A3 e3 => ?_⟩)⟩
        rw [em, ek] at v1
        rw [em, ek, en] at vb
        have ns : ∀ k', w (r s k') = (s, k') → r s k' ≠ r P 0 := fun k' hk' => cg_ne hk' a3 (by simp; intro e; exact absurd e (cw_O_ne sq.1 hP (by decide)))
        have c6 : A3 (r s 6) = A (r s 6) := by rw [e3, hz_s_a (ns 6 n3)]; exact en
        have c7 : A3 (r s 7) = A (r s 7) := by rw [e3, hz_s_a (ns 7 p3)]; exact ep
        have c0 : A3 (r P 0) x.toNat = v := by rw [e3, hz_s_same]
        have j3 : cJ L K r z2 A3 := by rw [e3]; exact cJ_st j2 a1 da ⟨fun _ => by omega, by omega, by omega, by omega⟩
        have F3 : cF ρ S z A z2 A3 := cF_trans F2 (by rw [e3]; exact cF_st (by rw [a4]; exact hPS))
        obtain ⟨g1, g2, g3, g4⟩ := l4 (A (r s 7) k).toNat (by omega)
        obtain ⟨o1, o2, o3, o4⟩ := l4 (A (r s 6) k + v).toNat (by omega)
        refine ⟨hP, sq.1, p1, by omega, l1, by rw [c7, ek]; omega, n1, by omega, a1, by omega, by rw [c6, c0, ek]; omega, by rw [c7, ek]; exact g1, ?_⟩
        rw [c7, c6, c0, ek]
        have b3 : ∀ i : Nat, (i : Int) < z s 5 → cb_u r z2 A3 (cw_g K (r P 2) i) ≤ 8000000000000 * M * 2 ^ t := by
          intro i hi
          have e : cb_u r z2 A3 (cw_g K (r P 2) i) = cb_u r z2 A2 (cw_g K (r P 2) i) := by
            unfold cb_u
            rw [e3, hz_s_a (da _ (l4 i (by omega)).1)]
          rw [e]
          exact b2 i hi
        have ua := b3 (A (r s 7) k).toNat (by omega)
        have ub := b3 (A (r s 6) k + v).toNat (by omega)
        have nne : cw_g K (r P 2) (A (r s 6) k + v).toNat ≠ cw_g K (r P 2) (A (r s 7) k).toNat := cg_ne o3 g3 (by simp; omega)
        refine wq_c0_plus j3.1 g1 o1 nne (by rw [g2]; omega) (fun z4 A4 k4 hY4 hv4 x1 e1 => ?_)
        refine ih (t + 1) z4 A4 x1 (by omega) (by omega) (cJ_Y j3 g1 k4 hY4) (cF_trans F3 (cF_Y h1 g1 (by rw [g4]; exact hPS) hY4)) (fun i hi => ?_) (by
          obtain ⟨mv, G, hK, hG, hmv⟩ := hmg
          have ve : ∀ l : Nat, (l : Int) < z s 5 → cb_v r z2 A3 (cw_g K (r P 2) l) = cb_v r z2 A2 (cw_g K (r P 2) l) := by
            intro l hl
            unfold cb_v cb_u
            rw [e3, hz_s_a (da _ (l4 l (by omega)).1)]
          have r0 : r P 0 ≠ r (cw_g K (r P 2) (A (r s 7) k).toNat) 0 := Ne.symm (da _ g1)
          refine ⟨lp_U mv k v, lp_U G k (fun l => cb_v r z4 A4 (cw_g K (r P 2) l)), cg_K_up hK ⟨v0, v1⟩ (fun l hl => ?_) (fun k' h0 h1' => ?_), fun l hl => ⟨?_, ?_⟩, fun i hi hin => ?_⟩
          · show cb_v r z4 A4 (cw_g K (r P 2) l) = _
            rw [(hG (A (r s 6) k + v).toNat (by omega)).2, (hG l hl).2]
            by_cases el : l = (A (r s 7) k).toNat
            · rw [if_pos el, el, hv4, ve _ (by omega), ve _ (by omega)]
            · rw [if_neg el, (cb_k_other j3.1.1 g1 (l4 l (by omega)).1 (cg_ne (l4 l (by omega)).2.2.1 g3 (by simp; exact el)) hY4).2.2, ve l hl]
              omega
          · rw [(hG (A (r s 6) k + v).toNat (by omega)).2, (hG (A (r s 6) k + k').toNat (by omega)).2, ← hd]
            exact vb k' h0 h1'
          · rw [lp_U_other (by omega)]
            exact (hG l hl).1
          · rw [lp_U_same]
          · rw [hY4.2 _ r0]
            by_cases ei : i = k
            · rw [ei, lp_U_same, ← ek]
              exact c0
            · rw [lp_U_other ei, e3, hz_s_i (by omega)]
              exact hmv i (by omega) hin)
        by_cases hii : i = (A (r s 7) k).toNat
        · have un : cb_u r z4 A4 (cw_g K (r P 2) i) ≤ cb_u r z2 A3 (cw_g K (r P 2) i) + cb_u r z2 A3 (cw_g K (r P 2) (A (r s 6) k + v).toNat) := by
            rw [hii]
            have x1' := cb_u_nn r z4 A4 (cw_g K (r P 2) (A (r s 7) k).toNat)
            have x2' := cb_u_nn r z2 A3 (cw_g K (r P 2) (A (r s 7) k).toNat)
            have x3' := cb_u_nn r z2 A3 (cw_g K (r P 2) (A (r s 6) k + v).toNat)
            unfold cb_v at hv4
            split at hv4 <;> split at hv4 <;> split at hv4 <;> omega
          have := b3 i hi
          omega
        · rw [(cb_k_other j3.1.1 g1 (l4 i (by omega)).1 (cg_ne (l4 i (by omega)).2.2.1 g3 (by simp; exact hii)) hY4).2.1]
          have := b3 i hi
          omega
      refine hPP z2 A2 x ⟨by omega, fun c => by omega, fun _ => ⟨hP, by omega, fun cq => main (-1) (by unfold cg_d; rw [if_neg cq]), fun cq => main 1 (by unfold cg_d; rw [if_pos cq])⟩⟩
  exact key (z s 0).toNat 0 z1 A1 x (by omega) (by omega) j1 F1 (fun i hi => by have := b1 i hi; omega) ⟨fun _ => 0, fun _ l => cb_v r z1 A1 (cw_g K (r P 2) l), fun i hi hin => by omega, fun l hl => ⟨val1' l hl, rfl⟩, fun i hi hin => by omega⟩
end CP
