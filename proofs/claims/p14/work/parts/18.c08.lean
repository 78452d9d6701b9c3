section CH
variable {L : List Nat} {K : Nat → cw_K} {r : Nat → Nat → Nat} {z A : Nat → Nat → Int} {w : Nat → Nat × Nat} {ρ : Nat → Nat} {z0 A0 : Nat → Nat → Int} {R : Nat} {E : Int}
/-- two arrays of sides at different places -/
theorem cq_nn (X : cq_X L K r w ρ R) {t k t' k' : Nat} (ht : t < 2) (ht' : t' < 2) (hk : k = 1 ∨ k = 2 ∨ k = 3 ∨ k = 4 ∨ k = 6 ∨ k = 7) (hk' : k' = 1 ∨ k' = 2 ∨ k' = 3 ∨ k' = 4 ∨ k' = 6 ∨ k' = 7) (h : k ≠ k') : r (cw_g K (r (r R 3) 1) t) k ≠ r (cw_g K (r (r R 3) 1) t') k' := cg_ne (cq_ws X ht hk).2.2.1 (cq_ws X ht' hk').2.2.1 (fun e => h e.2)
/-- while the lines are numbered -/
noncomputable def cq_H (L : List Nat) (K : Nat → cw_K) (r : Nat → Nat → Nat) (ρ : Nat → Nat) (R : Nat) (z0 A0 z1 A z2 A2 : Nat → Nat → Int) : Prop := cF ρ (cq_r r ρ R) z0 A0 z2 A2 ∧ cJ L K r z2 A2 ∧ (∀ a, (∀ t, t < 2 → a ≠ cw_g K (r (r R 3) 1) t) → z2 a = z1 a) ∧ (∀ t, t < 2 → z2 (cw_g K (r (r R 3) 1) t) 0 = z1 (cw_g K (r (r R 3) 1) t) 0) ∧ (∀ a, (∀ t, t < 2 → a ≠ r (cw_g K (r (r R 3) 1) t) 6 ∧ a ≠ r (cw_g K (r (r R 3) 1) t) 7) → A2 a = A a)
theorem cJ_A {x t : Nat} {A' : Nat → Nat → Int} (J : cJ L K r z A) (hx : cw_A L K t x) (hd : ∀ b, cw_O L K 0 b → r b 0 ≠ x) (hA : ∀ a, a ≠ x → A' a = A a) (hv : ∀ i, (t = 0 → hz_rI (A' x i)) ∧ (t = 1 → hz_rL (A' x i)) ∧ (t = 2 → 0 ≤ A' x i ∧ A' x i < 65536) ∧ (t = 3 → A' x i = 0 ∨ A' x i = 1)) : cJ L K r z A' := by
  refine ⟨⟨⟨fun b hb => ⟨(J.1.1.1 b hb).1, (J.1.1.1 b hb).2.1, by rw [hA _ (hd b hb)]; exact (J.1.1.1 b hb).2.2⟩, J.1.1.2⟩, fun b hb => ?_⟩, fun y => ?_⟩
  · have := J.1.2 b hb
    unfold cb_k at this ⊢
    rw [hA _ (hd b hb)]
    exact this
  · by_cases hy : y = x
    · subst hy
      exact ⟨fun q i => (hv i).1 (cw_A_ne hx q), fun q i => (hv i).2.1 (cw_A_ne hx q), fun q i => (hv i).2.2.1 (cw_A_ne hx q), fun q i => (hv i).2.2.2 (cw_A_ne hx q)⟩
    · rw [hA y hy]
      exact J.2 y
theorem wq_c2_clear (X : cq_X L K r w ρ R) (J : cJ L K r z A) {Q : (Nat → Nat → Int) → (Nat → Nat → Int) → Prop} (hQ : ∀ z' A' : Nat → Nat → Int, (∀ a, (∀ t, t < 2 → a ≠ cw_g K (r (r R 3) 1) t) → z' a = z a) → (∀ t, t < 2 → z' (cw_g K (r (r R 3) 1) t) 0 = 0) → (∀ a, a ≠ r (r R 3) 0 → (∀ i, i < 20 → a ≠ cw_g K (r (r R 3) 3) i) → A' a = A a) → (∀ j, j < 4 → A' (r (r R 3) 0) j = 0) → cq_0 K r A' R → cJ L K r z' A' → Q z' A') : wp_c2_clear L K z r A (r R 3) Q := by
  obtain ⟨c1, c2, c3, c4⟩ := cq_wc X
  have x4 := X.2.2.2.1
  have x10 := X.2.2.2.2.2.2.2.2.2.1
  have g7 := (X.2.2.2.2.2.2.2.2.2.2.1 _ x4).2.1
  have g10 := (X.2.2.2.2.2.2.2.2.2.2.1 _ x4).2.2
  have o := cq_o3 X
  have l7 := g7.2.1
  have l10 := g10.2.1
  have nC : ∀ i, i < 20 → r (r R 3) 0 ≠ cw_g K (r (r R 3) 3) i := fun i hi => cg_ne c3 (cq_ww X hi).2.2.1 (fun e => o.1 _ _ x4 e.1)
  have at45 : ∀ (z1 A1 : Nat → Nat → Int), (∀ a, (∀ t, t < 2 → a ≠ cw_g K (r (r R 3) 1) t) → z1 a = z a) → (∀ t, t < 2 → z1 (cw_g K (r (r R 3) 1) t) 0 = 0) → (∀ a, a ≠ r (r R 3) 0 → A1 a = A a) → (∀ j, j < 4 → A1 (r (r R 3) 0) j = 0) → cJ L K r z1 A1 → wp_c2_clear_45 L K z1 r A1 (r R 3) 0 Q := by
    intro z1 A1 oz sz oA sA J1
    intro P45 hP45
    have key : ∀ (k n : Nat) (A2 : Nat → Nat → Int) (x : Int), n + k = 20 → x = (n : Int) → (∀ a, (∀ i, i < 20 → a ≠ cw_g K (r (r R 3) 3) i) → A2 a = A1 a) → (∀ i j, i < n → j < 20 → A2 (cw_g K (r (r R 3) 3) i) j = 0) → cJ L K r z1 A2 → P45 A2 x := by
      intro k
      induction k with
      | zero =>
        intro n A2 x hk ex fr hz J2
        exact hP45 A2 x ⟨by omega, fun _ => hQ z1 A2 oz sz (fun a a1 a2 => by rw [fr a a2]; exact oA a a1) (fun j hj => by rw [fr _ nC]; exact sA j hj) (fun i j hi hj => hz i j (by omega) hj) J2, fun q => by omega⟩
      | succ k ih =>
        intro n A2 x hk ex fr hz J2
        have xn : x.toNat = n := by omega
        obtain ⟨y1, y2, y3, y4⟩ := cq_ww X (i := n) (by omega)
        refine hP45 A2 x ⟨by omega, fun q => by omega, fun _ => ?_⟩
        intro P53 hP53
        have key2 : ∀ (l m : Nat) (A3 : Nat → Nat → Int) (x2 : Int), m + l = 20 → x2 = (m : Int) → (∀ a, (∀ i, i < 20 → a ≠ cw_g K (r (r R 3) 3) i) → A3 a = A1 a) → (∀ i j, i < n → j < 20 → A3 (cw_g K (r (r R 3) 3) i) j = 0) → (∀ j, j < m → A3 (cw_g K (r (r R 3) 3) n) j = 0) → cJ L K r z1 A3 → P53 A3 x2 := by
          intro l
          induction l with
          | zero =>
            intro m A3 x2 hl ex2 fr3 hz3 hm3 J3
            refine hP53 A3 x2 ⟨by omega, fun _ x' ex' => ih (n + 1) A3 x' (by omega) (by omega) fr3 (fun i j hi hj => ?_) J3, fun q => by omega⟩
            by_cases e : i = n
            · rw [e]; exact hm3 j (by omega)
            · exact hz3 i j (by omega) hj
          | succ l ih2 =>
            intro m A3 x2 hl ex2 fr3 hz3 hm3 J3
            refine hP53 A3 x2 ⟨by omega, fun q => by omega, fun _ => ⟨x4, g10.1, by omega, ?_⟩⟩
            rw [xn]
            refine ⟨y1, by omega, fun A4 e4 x' ex' => ih2 (m + 1) A4 x' (by omega) (by omega) (fun a ha => by rw [e4, hz_s_a (ha n (by omega))]; exact fr3 a ha) (fun i j hi hj => ?_) (fun j hj => ?_) ?_⟩
            · rw [e4, hz_s_a (cg_ne (cq_ww X (i := i) (by omega)).2.2.1 y3 (fun e => by omega))]
              exact hz3 i j hi hj
            · by_cases e : j = m
              · have t := hz_s_same (A := A3) (cw_g K (r (r R 3) 3) n) x2 0
                rw [← e4, show x2.toNat = j by omega] at t
                exact t
              · rw [e4, hz_s_i (by omega)]
                exact hm3 j (by omega)
            · rw [e4]
              exact cJ_st J3 y1 (fun b hb => cg_ne (x10 b hb) y3 (fun e => o.1 _ _ hb e.1)) ⟨by omega, fun _ => by omega, by omega, by omega⟩
        exact key2 20 0 A2 0 (by omega) rfl fr hz (fun j hj => by omega) J2
    exact key 20 0 A1 0 (by omega) rfl (fun _ _ => rfl) (fun i j hi hj => by omega) J1
  have at22 : ∀ (A1 : Nat → Nat → Int), (∀ a, a ≠ r (r R 3) 0 → A1 a = A a) → (∀ j, j < 4 → A1 (r (r R 3) 0) j = 0) → cJ L K r z A1 → wp_c2_clear_22 L K z r A1 (r R 3) 0 Q := by
    intro A1 oA sA J1
    intro P22 hP22
    have key : ∀ (k n : Nat) (z1 : Nat → Nat → Int) (x : Int), n + k = 2 → x = (n : Int) → (∀ a, (∀ t, t < 2 → a ≠ cw_g K (r (r R 3) 1) t) → z1 a = z a) → (∀ t, t < n → z1 (cw_g K (r (r R 3) 1) t) 0 = 0) → cJ L K r z1 A1 → P22 z1 x := by
      intro k
      induction k with
      | zero =>
        intro n z1 x hk ex oz sz J2
        exact hP22 z1 x ⟨by omega, fun _ => at45 z1 A1 oz (fun t ht => sz t (by omega)) oA sA J2, fun q => by omega⟩
      | succ k ih =>
        intro n z1 x hk ex oz sz J2
        have xn : x.toNat = n := by omega
        refine hP22 z1 x ⟨by omega, fun q => by omega, fun _ => ⟨x4, g7.1, by omega, ?_⟩⟩
        rw [xn]
        have sd := (cq_side X (t := n) (by omega)).1
        refine ⟨sd, fun z2 e2 x' ex' => ih (n + 1) z2 x' (by omega) (by omega) (fun a ha => by rw [e2, cw_s_a (ha n (by omega))]; exact oz a ha) (fun t ht => ?_) (cJ_z J2 (fun b hb => by rw [e2, cw_s_a (cw_O_ne hb sd (by decide))]))⟩
        by_cases e : t = n
        · rw [e, e2, cw_s_same]
        · rw [e2, cw_s_a (cq_side_ne X (by omega) (by omega) e)]
          exact sz t (by omega)
    exact key 2 0 z 0 (by omega) rfl (fun _ _ => rfl) (fun t ht => by omega) J1
  intro P2 hP2
  have key : ∀ (k n : Nat) (A1 : Nat → Nat → Int) (x : Int), n + k = 4 → x = (n : Int) → (∀ a, a ≠ r (r R 3) 0 → A1 a = A a) → (∀ j, j < n → A1 (r (r R 3) 0) j = 0) → cJ L K r z A1 → P2 A1 x := by
    intro k
    induction k with
    | zero =>
      intro n A1 x hk ex oA sA J1
      exact hP2 A1 x ⟨by omega, fun _ => at22 A1 oA (fun j hj => sA j (by omega)) J1, fun q => by omega⟩
    | succ k ih =>
      intro n A1 x hk ex oA sA J1
      refine hP2 A1 x ⟨by omega, fun q => by omega, fun _ => ⟨x4, c1, by omega, fun A2 e2 x' ex' => ih (n + 1) A2 x' (by omega) (by omega) (fun a ha => by rw [e2, hz_s_a ha]; exact oA a ha) (fun j hj => ?_) ?_⟩⟩
      · by_cases e : j = n
        · have t := hz_s_same (A := A1) (r (r R 3) 0) x 0
          rw [← e2, show x.toNat = j by omega] at t
          exact t
        · rw [e2, hz_s_i (by omega)]
          exact sA j (by omega)
      · rw [e2]
        exact cJ_st J1 c1 (cg_dig x10 c3 x4 (by decide)) ⟨fun _ => by omega, by omega, by omega, by omega⟩
  exact key 4 0 A 0 (by omega) rfl (fun _ _ => rfl) (fun j hj => by omega) J
end CH
