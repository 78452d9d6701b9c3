section CY
variable {L : List Nat} {K : Nat → cw_K} {r : Nat → Nat → Nat} {z A : Nat → Nat → Int} {w : Nat → Nat × Nat} {ρ : Nat → Nat} {S : Nat → Prop} {y s : Nat} {X0 X1 : Nat → Int}
/-- a way whose chances are X0 over X1 -/
noncomputable def cy_V (X0 X1 : Nat → Int) (L : List Nat) (K : Nat → cw_K) (r : Nat → Nat → Nat) (A : Nat → Nat → Int) (y : Nat) : Prop := cy_W L K r A y ∧ A (r y 0) = X0 ∧ A (r y 1) = X1
theorem wl_c9_spreadLine {d : Int} {b : Nat} (h : cJ L K r z A) (hdg : ∀ a, cw_O L K 0 a → w (r a 0) = (a, 0)) (h1 : cg_1 L K r w ρ) (h7 : cg_7 L K r w ρ) (h9 : cg_9 L K r w ρ) (hF : cs_F L K r z A s) (hW : cy_V X0 X1 L K r A y) (hy : S (ρ y)) (hs' : ¬ S (ρ s)) (hb : cw_O L K 0 b) (hbS : S (ρ b)) (hby : ρ b ≠ ρ y) (hd : cs_d z s d) {Q : (Nat → Nat → Int) → (Nat → Nat → Int) → Prop} (hQ : ∀ z' A' : Nat → Nat → Int, cJ L K r z' A' → cF ρ S z A z' A' → cy_V X0 X1 L K r A' y → (∀ a, a ≠ b → z' a = z a) → z' b 1 ≤ 12 → Q z' A') : wp_c9_spreadLine L K z r A y s d b Q := by
  have hO := hW.1.1
  have hs := hF.1
  obtain ⟨⟨a1, a2, a3, a4⟩, ⟨b1, b2, b3, b4⟩, ⟨c1, c2, c3, c4⟩⟩ := h9 y hO
  have yb : ∀ k, ρ (r y k) = ρ y → r y k ≠ r b 0 := fun k hk e => hby (by rw [← h1.1 b hb, ← e, hk])
  refine ⟨hO, wq_c9_markTaken h hdg h7 h9 hO hF hy hd (fun A1 j1 F1 o1 t1 => ⟨hb, ?_⟩)⟩
  have W1 : cy_V X0 X1 L K r A1 y := ⟨⟨hO, fun i hi => by rw [o1 _ (cg_ne a3 c3 (by simp)), o1 _ (cg_ne b3 c3 (by simp))]; exact hW.1.2 i hi⟩, by rw [o1 _ (cg_ne a3 c3 (by simp))]; exact hW.2.1, by rw [o1 _ (cg_ne b3 c3 (by simp))]; exact hW.2.2⟩
  refine wq_c0_put j1.1 hb (by omega) (fun z2 A2 k2 hY2 _ hl2 => ?_)
  have j2 := cJ_Y j1 hb k2 hY2
  have F2 : cF ρ S z A z2 A2 := cF_trans F1 (cF_Y h1 hb hbS hY2)
  have W2 : cy_V X0 X1 L K r A2 y := ⟨⟨hO, fun i hi => by rw [hY2.2 _ (yb 0 a4), hY2.2 _ (yb 1 b4)]; exact W1.1.2 i hi⟩, by rw [hY2.2 _ (yb 0 a4)]; exact W1.2.1, by rw [hY2.2 _ (yb 1 b4)]; exact W1.2.2⟩
  have t2 : cy_t r A2 y := fun i hi => by rw [hY2.2 _ (yb 2 c4)]; exact t1 i hi
  intro P hP
  have key : ∀ (k n : Nat) (z3 A3 : Nat → Nat → Int) (x : Int), n + (k : Int) = z s 0 → x = (n : Int) → cJ L K r z3 A3 → cF ρ S z A z3 A3 → cy_V X0 X1 L K r A3 y → cy_t r A3 y → (∀ a, a ≠ b → z3 a = z a) → z3 b 1 ≤ 2 + (n : Int) → P z3 A3 x := by
    intro k
    induction k with
    | zero =>
      intro n z3 A3 x hk ex j3 F3 W3 t3 o3 l3
      have e0 : z3 s 0 = z s 0 := by rw [(F3 s hs').1]
      have := hF.2.1
      exact hP z3 A3 x ⟨hs, by omega, by omega, fun _ => hQ z3 A3 j3 F3 W3 o3 (by omega), fun c => by omega⟩
    | succ k ih =>
      intro n z3 A3 x hk ex j3 F3 W3 t3 o3 l3
      have F3' := cs_F_keep h7 hF F3 hs'
      have e0 : z3 s 0 = z s 0 := by rw [(F3 s hs').1]
      have hle := hF.2.1
      have tn := t3 x.toNat (by omega)
      have sc : ∀ f : Int, wp_c9_spreadLine_64 L K z3 r A3 y s b x f b P Q := by
        intro f
        refine ⟨hb, wq_c0_scale j3.1 hb (fun z4 A4 k4 hY4 hl4 _ x4 ex4 => ?_)⟩
        refine ih (n + 1) z4 A4 x4 (by omega) (by omega) (cJ_Y j3 hb k4 hY4) (cF_trans F3 (cF_Y h1 hb hbS hY4)) ⟨⟨hO, fun i hi => by rw [hY4.2 _ (yb 0 a4), hY4.2 _ (yb 1 b4)]; exact W3.1.2 i hi⟩, by rw [hY4.2 _ (yb 0 a4)]; exact W3.2.1, by rw [hY4.2 _ (yb 1 b4)]; exact W3.2.2⟩ (fun i hi => by rw [hY4.2 _ (yb 2 c4)]; exact t3 i hi) (fun a ha => by rw [hY4.1 a ha]; exact o3 a ha) (by omega)
      refine hP z3 A3 x ⟨hs, by omega, by omega, fun c => by omega, fun _ => ⟨hO, wq_c9_bottomOf h7 h9 F3' W3.1 (by omega) (fun v v0 v1 => ⟨c1, by omega, by omega, fun c => ⟨by omega, wq_c9_topOf h9 W3.1 (by omega) (by omega) ⟨v0, v1⟩ (fun t _ _ => sc t)⟩, fun _ => sc v⟩)⟩⟩
  exact key (z s 0).toNat 0 z2 A2 0 (by have := hF.2.1; omega) rfl j2 F2 W2 t2 (fun a ha => hY2.1 a ha) (by omega)
theorem wl_c9_spread {m : Nat} (h : cJ L K r z A) (hdg : ∀ a, cw_O L K 0 a → w (r a 0) = (a, 0)) (h1 : cg_1 L K r w ρ) (h3 : cg_3 L K r w ρ) (h7 : cg_7 L K r w ρ) (h9 : cg_9 L K r w ρ) (hF : cs_F L K r z A s) (hW : cy_V X0 X1 L K r A y) (hy : S (ρ y)) (hs' : ¬ S (ρ s)) (hm : cw_O L K 3 m) (hmS : S (ρ m)) (hmy : ρ m ≠ ρ y) (hT : cm_T K r z m) {Q : (Nat → Nat → Int) → (Nat → Nat → Int) → Prop} (hQ : ∀ z' A' : Nat → Nat → Int, cJ L K r z' A' → cF ρ S z A z' A' → cy_V X0 X1 L K r A' y → cm_T K r z' m → Q z' A') : wp_c9_spread L K z r A y s m Q := by
  have hO := hW.1.1
  have hs := hF.1
  obtain ⟨⟨g1, g2, g3, g4⟩, -⟩ := h3 m hm
  obtain ⟨-, ⟨m1, m2, m3, m4⟩, -, -, ⟨l1, l2, l3, l4⟩, -⟩ := h7 s hs
  -- one line
  have one : ∀ (z1 A1 : Nat → Nat → Int) (d : Int) (i : Nat) (Q1 : (Nat → Nat → Int) → (Nat → Nat → Int) → Prop), i < 20 → cs_d z s d → cJ L K r z1 A1 → cF ρ S z A z1 A1 → cy_V X0 X1 L K r A1 y → cm_T K r z1 m → (∀ z2 A2 : Nat → Nat → Int, cJ L K r z2 A2 → cF ρ S z A z2 A2 → cy_V X0 X1 L K r A2 y → cm_T K r z2 m → Q1 z2 A2) → wp_c9_spreadLine L K z1 r A1 y s d (cw_g K (r m 0) i) Q1 := by
    intro z1 A1 d i Q1 hi hd j1 F1 W1 T1 k1
    obtain ⟨p1, p2, p3, p4⟩ := g4 i hi
    have F1' := cs_F_keep h7 hF F1 hs'
    have d1 : cs_d z1 s d := by unfold cs_d at hd ⊢; rw [(F1 s hs').1]; exact hd
    refine wl_c9_spreadLine j1 hdg h1 h7 h9 F1' W1 hy hs' p1 (by rw [p4]; exact hmS) (by rw [p4]; exact hmy) d1 (fun z2 A2 j2 F2 W2 o2 l2 => k1 z2 A2 j2 (cF_trans F1 F2) W2 (fun q hq => ?_))
    by_cases hqi : q = i
    · rw [hqi]; exact l2
    · obtain ⟨q1, q2, q3, q4⟩ := g4 q hq
      rw [o2 _ (cg_ne q3 p3 (by simp; exact hqi))]
      exact T1 q hq
  refine ⟨hm, g1, by omega, hO, one z A (-1) 0 _ (by omega) (Or.inl rfl) h (cF_refl _ _ _ _) hW hT (fun z1 A1 j1 F1 W1 T1 => ?_)⟩
  intro P hP
  have f2 := hF.2.1
  have f3 := hF.2.2.1
  have key : ∀ (k n : Nat) (z2 A2 : Nat → Nat → Int) (x : Int), n + (k : Int) = z s 0 → x = (n : Int) → cJ L K r z2 A2 → cF ρ S z A z2 A2 → cy_V X0 X1 L K r A2 y → cm_T K r z2 m → P z2 A2 x := by
    intro k
    induction k with
    | zero =>
      intro n z2 A2 x hk ex j2 F2 W2 T2
      have e0 : z2 s 0 = z s 0 := by rw [(F2 s hs').1]
      exact hP z2 A2 x ⟨hs, by omega, by omega, fun _ => hQ z2 A2 j2 F2 W2 T2, fun c => by omega⟩
    | succ k ih =>
      intro n z2 A2 x hk ex j2 F2 W2 T2
      have e0 : z2 s 0 = z s 0 := by rw [(F2 s hs').1]
      refine hP z2 A2 x ⟨hs, by omega, by omega, fun c => by omega, fun _ => ?_⟩
      intro P2 hP2
      have fn := hF.2.2.2 n (by omega)
      have e9 : x.toNat = n := by omega
      have inner : ∀ (k2 j : Nat) (z3 A3 : Nat → Nat → Int) (i : Int), j + (k2 : Int) = A (r s 2) n → i = (j : Int) → cJ L K r z3 A3 → cF ρ S z A z3 A3 → cy_V X0 X1 L K r A3 y → cm_T K r z3 m → P2 z3 A3 i := by
        intro k2
        induction k2 with
        | zero =>
          intro j z3 A3 i hj ei j3 F3 W3 T3
          have em : A3 (r s 2) = A (r s 2) := (F3 _ (by rw [m4]; exact hs')).2
          refine hP2 z3 A3 i ⟨hs, m1, by omega, by omega, by rw [em, e9]; omega, fun _ x1 e1 => ih (n + 1) z3 A3 x1 (by omega) (by omega) j3 F3 W3 T3, fun c => ?_⟩
          rw [em, e9] at c; omega
        | succ k2 ih2 =>
          intro j z3 A3 i hj ei j3 F3 W3 T3
          have em : A3 (r s 2) = A (r s 2) := (F3 _ (by rw [m4]; exact hs')).2
          have el : A3 (r s 6) = A (r s 6) := (F3 _ (by rw [l4]; exact hs')).2
          refine hP2 z3 A3 i ⟨hs, m1, by omega, by omega, by rw [em, e9]; omega, fun c => ?_, fun _ => wq_c7_deed (by omega) (by omega) ⟨hm, l1, by omega, g1, by rw [el, e9]; omega, hO, ?_⟩⟩
          · rw [em, e9] at c; omega
          · refine one z3 A3 _ _ _ (by rw [el, e9]; omega) (Or.inr (by omega)) j3 F3 W3 T3 (fun z4 A4 j4 F4 W4 T4 i1 ei1 => ih2 (j + 1) z4 A4 i1 (by omega) (by omega) j4 F4 W4 T4)
      exact inner (A (r s 2) n).toNat 0 z2 A2 0 (by omega) rfl j2 F2 W2 T2
  exact key (z s 0).toNat 0 z1 A1 0 (by omega) rfl j1 F1 W1 T1
end CY
/-- neither the text nor a game nor a way is changed -/
noncomputable def ci_E (K : Nat → cw_K) (r : Nat → Nat → Nat) (ρ : Nat → Nat) (h : Nat) (z A z' A' : Nat → Nat → Int) : Prop := ci_D ρ h z A z' A' ∧ ∀ i, i < 2 → A' (r (cw_g K (r h 4) i) 0) = A (r (cw_g K (r h 4) i) 0) ∧ A' (r (cw_g K (r h 4) i) 1) = A (r (cw_g K (r h 4) i) 1) ∧ z' (cw_g K (r h 9) (2 + i)) 2 = z (cw_g K (r h 9) (2 + i)) 2 ∧ A' (r (cw_g K (r h 7) i) 0) = A (r (cw_g K (r h 7) i) 0)
/-- .. but what was judged may be -/
noncomputable def ci_0 (K : Nat → cw_K) (r : Nat → Nat → Nat) (ρ : Nat → Nat) (h : Nat) (z A z' A' : Nat → Nat → Int) : Prop := ci_D ρ h z A z' A' ∧ ∀ i, i < 2 → A' (r (cw_g K (r h 4) i) 0) = A (r (cw_g K (r h 4) i) 0) ∧ A' (r (cw_g K (r h 4) i) 1) = A (r (cw_g K (r h 4) i) 1)
theorem ci_E_refl (K : Nat → cw_K) (r : Nat → Nat → Nat) (ρ : Nat → Nat) (h : Nat) (z A : Nat → Nat → Int) : ci_E K r ρ h z A z A := ⟨ci_D_refl _ _ _ _, fun _ _ => ⟨rfl, rfl, rfl, rfl⟩⟩
theorem ci_E_trans {K : Nat → cw_K} {r : Nat → Nat → Nat} {ρ : Nat → Nat} {h : Nat} {z A z1 A1 z2 A2 : Nat → Nat → Int} (h1 : ci_E K r ρ h z A z1 A1) (h2 : ci_E K r ρ h z1 A1 z2 A2) : ci_E K r ρ h z A z2 A2 := ⟨ci_D_trans h1.1 h2.1, fun i hi => ⟨(h2.2 i hi).1.trans (h1.2 i hi).1, (h2.2 i hi).2.1.trans (h1.2 i hi).2.1, (h2.2 i hi).2.2.1.trans (h1.2 i hi).2.2.1, (h2.2 i hi).2.2.2.trans (h1.2 i hi).2.2.2⟩⟩
section CI
variable {L : List Nat} {K : Nat → cw_K} {r r' : Nat → Nat → Nat} {z A : Nat → Nat → Int} {w : Nat → Nat × Nat} {ρ : Nat → Nat} {S : Nat → Prop} {h g R : Nat} {σ : Nat → Nat → Int}
theorem ci_E_of {z' A' : Nat → Nat → Int} (I : ci_I L K r w ρ z A h) (hF : cF ρ S z A z' A') (hS : ∀ q, S q → q = 0 ∨ q = 2 ∨ ((5 ≤ q ∧ q ≤ 16) ∧ q ≠ 9 ∧ q ≠ 10)) (hh : ∀ y, y ≠ 2 → z' h y = z h y) (hk : ∀ i, i < 2 → z' (cw_g K (r h 9) (2 + i)) 2 = z (cw_g K (r h 9) (2 + i)) 2) : ci_E K r ρ h z A z' A' := by
  obtain ⟨-, -, -, -, -, ⟨f1, f2, f3⟩, -, -, ⟨j1, j2, j3⟩, -⟩ := I.2.1
  refine ⟨⟨cF_mono hF (fun q hq => by have := hS q hq; omega), hh⟩, fun i hi => ?_⟩
  obtain ⟨g1, g2⟩ := f3 i hi
  obtain ⟨a, b, -⟩ := I.1.2.2.2.2.2.2.2.2 _ g1
  obtain ⟨P1, P2⟩ := j3 i hi
  obtain ⟨pa, -⟩ := I.1.2.2.2.2.2.1 _ P1
  exact ⟨(hF _ (by rw [a.2.2.2, g2]; intro q; have := hS _ q; omega)).2, (hF _ (by rw [b.2.2.2, g2]; intro q; have := hS _ q; omega)).2, hk i hi, (hF _ (by rw [pa.2.2.2, P2]; intro q; have := hS _ q; omega)).2⟩
/-- what was judged lies in no changed region -/
theorem ci_k_of {z' A' : Nat → Nat → Int} (I : ci_I L K r w ρ z A h) (hF : cF ρ S z A z' A') (hS : ∀ q, S q → q ≠ 14 ∧ q ≠ 15) : ∀ i, i < 2 → z' (cw_g K (r h 9) (2 + i)) 2 = z (cw_g K (r h 9) (2 + i)) 2 := by
  obtain ⟨-, -, -, -, -, -, -, -, -, -, ⟨l1, l2, l3⟩, -⟩ := I.2.1
  intro i hi
  rw [(hF _ (by rw [(l3 (2 + i) (by omega)).2]; intro q; have := hS _ q; omega)).1]
theorem we_c11_print {y : Int} (I : ci_I L K r w ρ z A h) (hy : hz_rI y) {Q : Int → (Nat → Nat → Int) → (Nat → Nat → Int) → Prop} (hQ : ∀ (x : Int) (z' A' : Nat → Nat → Int), ci_I L K r w ρ z' A' h → z' (r (r h 0) 2) 1 = z (r (r h 0) 2) 1 → ci_E K r ρ h z A z' A' → Q x z' A') : wp_c11_print L K z r A h y Q := by
  obtain ⟨hdg, h1, h2, h3, h4, h6, h7, h8, h9⟩ := id I.1
  obtain ⟨⟨a1, a2⟩, ⟨b1, b2⟩, ⟨c1, c2, c3⟩, ⟨d1, d2, d3, d4⟩, -, -, -, -, -, -, ⟨l1, l2, l3⟩, -⟩ := id I.2.1
  have g := ci_g I
  refine ⟨a1, wq_c11_isKnown I hy (fun hy4 hg => ⟨by decide, fun _ => ⟨l1, by omega, (l3 _ (by omega)).1, ?_⟩, fun c => absurd c (by decide)⟩) ⟨by decide, fun c => absurd rfl c, fun _ => hQ _ z A I rfl (ci_E_refl _ _ _ _ _ _)⟩⟩
  obtain ⟨R1, R2⟩ := l3 y.toNat (by omega)
  obtain ⟨S9, hS⟩ : ∃ S9 : Nat → Prop, S9 = fun q => q = 0 ∨ q = 12 + y.toNat := ⟨_, rfl⟩
  refine wq_c4_write (S := S9) I.2.2.1 h1 h4 R1 (by rw [hS, R2]; exact Or.inr rfl) d1 (by omega) (by rw [hS, d4, a2]; exact Or.inl rfl) (fun v z1 A1 j1 F1 o1 hv z2 e2 => ?_)
  have F2 : cF ρ S9 z A z2 A1 := cF_trans F1 (by rw [e2]; exact cF_s (by rw [hS, a2]; exact Or.inl rfl))
  have j2 : cJ L K r z2 A1 := ⟨cb_all_z j1.1 (fun q hq => by rw [e2, cw_s_a (cw_O_ne hq a1 (by decide))]), j1.2⟩
  have hh : z1 h = z h := o1 h (cw_O_ne a1 (h4 _ R1).2.2.1.1 (by decide))
  have q15 := I.2.2.2.2.2.2.2.2.2.2.2
  have res : ∀ i, i < 4 → z2 (cw_g K (r h 9) i) 2 = z (cw_g K (r h 9) i) 2 := fun i hi => by
    rw [e2, cw_s_a (cw_O_ne (l3 i hi).1 a1 (by decide)), o1 _ (cw_O_ne (l3 i hi).1 (h4 _ R1).2.2.1.1 (by decide))]
  refine hQ _ z2 A1 (ci_keep I F2 j2 (by rw [hS]; show ¬ (ρ (r h 13) = 0 ∨ ρ (r h 13) = 12 + y.toNat); omega) (fun _ => ⟨by rw [e2, cw_s_k (by decide), hh], by rw [e2, cw_s_same]; omega, by rw [e2, cw_s_k (by decide), hh]; exact q15⟩) (fun s => by rw [hS] at s; rcases s with s | s <;> omega) (fun i hi s => by rw [hS] at s; rcases s with s | s <;> omega) (fun i hi s => by rw [hS] at s; rcases s with s | s <;> omega) (fun i hi s => by rw [hS] at s; rcases s with s | s <;> omega) (fun i hi _ => by rw [res i hi]; exact I.2.2.2.2.2.2.2.2.2.1 i hi)) ?_ (ci_E_of I F2 (fun q hq => by rw [hS] at hq; rcases hq with hq | hq <;> omega) (fun yy hyy => by rw [e2, cw_s_k hyy, hh]) (fun i hi => res (2 + i) (by omega)))
  rw [e2, cw_s_a (cw_O_ne c1 a1 (by decide)), o1 _ (cw_O_ne c1 (h4 _ R1).2.2.1.1 (by decide))]
theorem we_c11_compare {x y : Int} (I : ci_I L K r w ρ z A h) (hx : hz_rI x) (hy : hz_rI y) {Q : Int → (Nat → Nat → Int) → (Nat → Nat → Int) → Prop} (hQ : ∀ (v : Int) (z' A' : Nat → Nat → Int), ci_I L K r w ρ z' A' h → z' (r (r h 0) 2) 1 = z (r (r h 0) 2) 1 → ci_E K r ρ h z A z' A' → Q v z' A') : wp_c11_compare L K z r A h x y Q := by
  obtain ⟨hdg, h1, h2, h3, h4, h6, h7, h8, h9⟩ := id I.1
  obtain ⟨⟨a1, a2⟩, -, ⟨c1, c2, c3⟩, -, -, -, -, -, -, -, ⟨l1, l2, l3⟩, -⟩ := id I.2.1
  have g := ci_g I
  have no : wp_c11_compare_34 L K z r A Q := hQ _ z A I rfl (ci_E_refl _ _ _ _ _ _)
  refine ⟨a1, wq_c11_isKnown I hx (fun hx4 _ => ⟨by decide, fun c => absurd c (by decide), fun _ => wq_c11_isKnown I hy (fun hy4 _ => ⟨by decide, fun c => absurd c (by decide), fun _ => ⟨l1, by omega, by omega, (l3 _ (by omega)).1, ?_⟩⟩) ⟨by decide, fun _ => no, fun c => absurd rfl c⟩⟩) ⟨by decide, fun _ => no, fun c => absurd rfl c⟩⟩
  obtain ⟨R1, R2⟩ := l3 x.toNat (by omega)
  obtain ⟨S9, hS⟩ : ∃ S9 : Nat → Prop, S9 = fun q => q = 12 + x.toNat := ⟨_, rfl⟩
  refine wq_c4_order (S := S9) I.2.2.1 h1 h4 R1 (l3 y.toNat (by omega)).1 (by rw [hS]; exact R2) (fun v z1 A1 j1 F1 _ o1 => ?_)
  have nf : ∀ q, cw_O L K 4 q → z1 q = z q := fun q hq => o1 q (cw_O_ne hq (h4 _ R1).2.2.1.1 (by decide)) (cw_O_ne hq (h4 _ R1).2.2.2.1.1 (by decide))
  refine hQ v z1 A1 (ci_keep I F1 j1 (by rw [hS]; show ¬ (ρ (r h 13) = 12 + x.toNat); omega) (fun s => by rw [hS] at s; omega) (fun s => by rw [hS] at s; omega) (fun i hi s => by rw [hS] at s; omega) (fun i hi s => by rw [hS] at s; omega) (fun i hi s => by rw [hS] at s; omega) (fun i hi _ => by rw [nf _ (l3 i hi).1]; exact I.2.2.2.2.2.2.2.2.2.1 i hi)) ?_ (ci_E_of I F1 (fun q hq => by rw [hS] at hq; omega) (fun yy _ => by rw [(F1 h (by rw [hS, a2]; show ¬ (0 = 12 + x.toNat); omega)).1]) (fun i hi => by rw [nf _ (l3 (2 + i) (by omega)).1]))
  rw [(F1 _ (by rw [hS, c2]; show ¬ (1 = 12 + x.toNat); omega)).1]
theorem we_c11_getsValue {p : Int} (I : ci_I L K r w ρ z A h) (hp : p = 0 ∨ p = 1) (hg : z h 14 = 1) {Q : Int → (Nat → Nat → Int) → (Nat → Nat → Int) → Prop} (hQ : ∀ (x : Int) (z' A' : Nat → Nat → Int), (x = 0 ∨ x = 1) → ci_I L K r w ρ z' A' h → z' h = z h → z' (r (r h 0) 2) 1 = z (r (r h 0) 2) 1 → ci_E K r ρ h z A z' A' → Q x z' A') : wp_c11_getsValue L K z r A h p Q := by
  obtain ⟨hdg, h1, h2, h3, h4, h6, h7, h8, h9⟩ := id I.1
  obtain ⟨⟨a1, a2⟩, -, ⟨c1, c2, c3⟩, -, -, -, -, ⟨i1, i2, i3⟩, -, ⟨k1, k2⟩, ⟨l1, l2, l3⟩, ⟨m1, m2⟩, -⟩ := id I.2.1
  have g := ci_g I
  obtain ⟨s1, s2, s3⟩ := ci_side (p := p + 1) I (by omega) hg
  rw [show p + 1 - 1 = p by omega] at s3
  obtain ⟨f1, f2⟩ := i3 p.toNat (by omega)
  have hF := I.2.2.2.2.2.1 hg
  have M := I.2.2.2.2.2.2.2.2.1 p.toNat (by omega)
  obtain ⟨-, ⟨t1, t2, t3⟩, -⟩ := h2 _ hF.1
  have sS := (t3 p.toNat (by omega)).2.2
  obtain ⟨Sa, hSa⟩ : ∃ Sa : Nat → Prop, Sa = fun q => q = 7 + p.toNat := ⟨_, rfl⟩
  have frame : ∀ (S9 : Nat → Prop) (z1 A1 : Nat → Nat → Int), (∀ q, S9 q → q = 7 + p.toNat ∨ q = 11 ∨ q = 16) → cF ρ S9 z A z1 A1 → cJ L K r z1 A1 → cm_M K r z1 A1 (r (cw_g K (r h 6) p.toNat) 0) cz_M → ci_I L K r w ρ z1 A1 h ∧ z1 h = z h ∧ z1 (r (r h 0) 2) 1 = z (r (r h 0) 2) 1 ∧ ci_E K r ρ h z A z1 A1 := by
    intro S9 z1 A1 hS9 F1 j1 M1
    have n : ∀ q, ¬ (q = 7 + p.toNat ∨ q = 11 ∨ q = 16) → ¬ S9 q := fun q hq s => hq (hS9 q s)
    refine ⟨ci_keep I F1 j1 (n _ (by omega)) (fun s => absurd s (n 0 (by omega))) (fun s => absurd s (n 1 (by omega))) (fun i hi s => absurd s (n _ (by omega))) (fun i hi s => absurd s (n _ (by omega))) (fun i hi s => ?_) (fun i hi s => ?_), (F1 h (n _ (by omega))).1, by rw [(F1 (r (r h 0) 2) (n _ (by omega))).1], ci_E_of I F1 (fun q hq => by have := hS9 q hq; omega) (fun y _ => by rw [(F1 h (n _ (by omega))).1]) (ci_k_of I F1 (fun q hq => by have := hS9 q hq; omega))⟩
    · have := hS9 _ s
      have : i = p.toNat := by omega
      rw [this]; exact M1
    · have := hS9 _ s
      omega
  refine ⟨a1, i1, by omega, hF.1, s1, by omega, f1, wq_c3_isMix (S := Sa) (M := cz_M) I.2.2.1 h1 h3 h7 f1 (by rw [hSa, f2]) s3 (by rw [hSa, sS]; show ¬ (ρ (r h 13) = 7 + p.toNat); omega) M (Int.le_of_lt cz_M_pos) cz_M_mix (fun x z1 A1 j1 F1 o1 oA1 hx => ⟨by omega, fun _ => ?_, fun _ => ?_⟩)⟩
  · have M1 : cm_M K r z1 A1 (r (cw_g K (r h 6) p.toNat) 0) cz_M := by
      intro i hi
      obtain ⟨⟨y1, y2, y3, y4⟩, ⟨u1, u2, u3, u4⟩⟩ := h3 _ f1
      have gr : r (cw_g K (r h 6) p.toNat) 0 ≠ cw_g K (r h 6) p.toNat := Ne.symm (cw_OG_ne f1 y1)
      have ne : cw_g K (r (cw_g K (r h 6) p.toNat) 0) i ≠ r (cw_g K (r h 6) p.toNat) 1 := cg_ne (y4 i hi).2.2.1 u3 (fun e => gr e.1)
      rw [(cb_k_other I.2.2.1.1.1 u1 (y4 i hi).1 ne ⟨o1, oA1⟩).2.1]
      exact M i hi
    obtain ⟨I1, zh1, zw1, dd1⟩ := frame Sa z1 A1 (fun q hq => by rw [hSa] at hq; omega) F1 j1 M1
    have hg1 : z1 h 14 = 1 := by rw [zh1]; exact hg
    have hF1 := I1.2.2.2.2.2.1 hg1
    refine ⟨by omega, k1, ?_⟩
    refine wq_c6_work (S := fun q => q = 11) (M := cz_M) j1 hdg h1 h2 h3 h6 h7 k1 k2 hF1 (by show ¬ ρ (r h 13) = 11; omega) (by omega) f1 (by rw [f2]; omega) M1 (Int.le_of_lt cz_M_pos) cz_M_work (fun z2 A2 j2 F2 => ?_)
    have M2 : cm_M K r z2 A2 (r (cw_g K (r h 6) p.toNat) 0) cz_M := by
      intro i hi
      obtain ⟨⟨y1, y2, y3, y4⟩, -⟩ := h3 _ f1
      rw [(cF_big h1 F2 (y4 i hi).1 (by rw [(y4 i hi).2.2.2, f2]; omega)).1]
      exact M1 i hi
    obtain ⟨⟨y1, y2, y3, y4⟩, -⟩ := h3 _ f1
    obtain ⟨-, -, ⟨n1, n2, n3, n4⟩, -, -⟩ := h6 _ k1
    refine wq_c6_worth h6 k1 ⟨by omega, y1, by omega, m1, ?_⟩
    show wp_c4_put L K z2 r A2 (r h 10) (cw_g K (r (r h 8) 2) 0) (cw_g K (r (cw_g K (r h 6) p.toNat) 0) 0) (z2 (r h 13) 2) _
    have lg := (j2.1.2 _ (n4 0 (by omega)).1).1
    have lp := (j2.1.2 _ (y4 0 (by omega)).1).1
    have ln := (n4 0 (by omega)).2.1
    have lq := (y4 0 (by omega)).2.1
    refine wq_c4_put (S := fun q => q = 16) j2 h1 h4 m1 m2 (n4 0 (by omega)).1 (y4 0 (by omega)).1 (by rw [(n4 0 (by omega)).2.2.2, k2, m2]; decide) (by rw [(y4 0 (by omega)).2.2.2, f2, m2]; omega) (by omega) (by omega) (fun z3 A3 j3 F3 _ => ⟨l1, by omega, ?_⟩)
    refine wq_c4_order (S := fun q => q = 16) j3 h1 h4 m1 (l3 0 (by omega)).1 m2 (fun o z4 A4 j4 F4 ho _ => ?_)
    have F : cF ρ (fun q => q = 7 + p.toNat ∨ q = 11 ∨ q = 16) z A z4 A4 := cF_trans (cF_trans (cF_trans (cF_mono F1 (fun q hq => by rw [hSa] at hq; exact Or.inl hq)) (cF_mono F2 (fun q hq => Or.inr (Or.inl hq)))) (cF_mono F3 (fun q hq => Or.inr (Or.inr hq)))) (cF_mono F4 (fun q hq => Or.inr (Or.inr hq)))
    have M4 : cm_M K r z4 A4 (r (cw_g K (r h 6) p.toNat) 0) cz_M := by
      intro i hi
      rw [(cF_big h1 (cF_trans F3 F4) (y4 i hi).1 (by rw [(y4 i hi).2.2.2, f2]; omega)).1]
      exact M2 i hi
    obtain ⟨I4, zh4, zw4, dd4⟩ := frame _ z4 A4 (fun q hq => hq) F j4 M4
    exact ⟨by omega, fun _ => ⟨by omega, hQ 0 z4 A4 (by omega) I4 zh4 zw4 dd4⟩, fun _ => ⟨by omega, hQ 1 z4 A4 (by omega) I4 zh4 zw4 dd4⟩⟩
  · have M1 : cm_M K r z1 A1 (r (cw_g K (r h 6) p.toNat) 0) cz_M := by
      intro i hi
      obtain ⟨⟨y1, y2, y3, y4⟩, ⟨u1, u2, u3, u4⟩⟩ := h3 _ f1
      have gr : r (cw_g K (r h 6) p.toNat) 0 ≠ cw_g K (r h 6) p.toNat := Ne.symm (cw_OG_ne f1 y1)
      have ne : cw_g K (r (cw_g K (r h 6) p.toNat) 0) i ≠ r (cw_g K (r h 6) p.toNat) 1 := cg_ne (y4 i hi).2.2.1 u3 (fun e => gr e.1)
      rw [(cb_k_other I.2.2.1.1.1 u1 (y4 i hi).1 ne ⟨o1, oA1⟩).2.1]
      exact M i hi
    obtain ⟨I1, zh1, zw1, dd1⟩ := frame Sa z1 A1 (fun q hq => by rw [hSa] at hq; omega) F1 j1 M1
    exact hQ 0 z1 A1 (by omega) I1 zh1 zw1 dd1
theorem we_c11_check (I : ci_I L K r w ρ z A h) {Q : Int → (Nat → Nat → Int) → (Nat → Nat → Int) → Prop} (hQ : ∀ (x : Int) (z' A' : Nat → Nat → Int), ci_I L K r w ρ z' A' h → z' (r (r h 0) 2) 1 = z (r (r h 0) 2) 1 → ci_E K r ρ h z A z' A' → Q x z' A') : wp_c11_check L K z r A h Q := by
  obtain ⟨⟨a1, a2⟩, -, -, -, -, -, -, -, -, -, ⟨l1, l2, l3⟩, -⟩ := id I.2.1
  have R := I.2.2.2.2.2.2.2.2.2.1 0 (by omega)
  have no : ∀ z1 A1 : Nat → Nat → Int, ci_I L K r w ρ z1 A1 h → z1 (r (r h 0) 2) 1 = z (r (r h 0) 2) 1 → ci_E K r ρ h z A z1 A1 → wp_c11_check_34 L K z1 r A1 Q := fun z1 A1 I1 e1 d1 => hQ _ z1 A1 I1 e1 d1
  refine ⟨a1, l1, by omega, (l3 0 (by omega)).1, ?_, fun c => ?_, fun _ => hQ _ z A I rfl (ci_E_refl _ _ _ _ _ _)⟩
  · show hz_rI (z (cw_g K (r h 9) 0) 2); omega
  · have c : ¬ z (cw_g K (r h 9) 0) 2 = 0 := c
    have hg : z h 14 = 1 := R.2 (by omega)
    refine we_c11_getsValue I (Or.inl rfl) hg (fun x z1 A1 hx I1 zh1 zw1 dd1 => ⟨by omega, fun _ => no z1 A1 I1 zw1 dd1, fun _ => ?_⟩)
    refine we_c11_getsValue I1 (Or.inr rfl) (by rw [zh1]; exact hg) (fun y z2 A2 hy I2 zh2 zw2 dd2 => ⟨by omega, fun _ => no z2 A2 I2 (zw2.trans zw1) (ci_E_trans dd1 dd2), fun _ => hQ _ z2 A2 I2 (zw2.trans zw1) (ci_E_trans dd1 dd2)⟩)
theorem we_c11_spreadWay {p : Int} (I : ci_I L K r w ρ z A h) (hp : p = 0 ∨ p = 1) (hg : z h 14 = 1) {Q : (Nat → Nat → Int) → (Nat → Nat → Int) → Prop} (hQ : ∀ z' A' : Nat → Nat → Int, ci_I L K r w ρ z' A' h → z' h = z h → z' (r (r h 0) 2) = z (r (r h 0) 2) → ci_E K r ρ h z A z' A' → Q z' A') : wp_c11_spreadWay L K z r A h p Q := by
  obtain ⟨hdg, h1, h2, h3, h4, h6, h7, h8, h9⟩ := id I.1
  obtain ⟨⟨a1, a2⟩, -, ⟨c1, c2, c3⟩, -, -, ⟨f1, f2, f3⟩, ⟨g1, g2, g3⟩, -, ⟨j1, j2, j3⟩, -, ⟨l1, l2, l3⟩, -⟩ := id I.2.1
  have pg := (ci_g I).2
  have hF := I.2.2.2.2.2.1 hg
  obtain ⟨s1, s2, s3⟩ := ci_side (p := p + 1) I (by omega) hg
  rw [show p + 1 - 1 = p by omega] at s3
  have sS := ((h2 _ hF.1).2.1.2.2 p.toNat (by omega)).2.2
  obtain ⟨k1, k2⟩ := f3 p.toNat (by omega)
  obtain ⟨m1, m2⟩ := g3 p.toNat (by omega)
  refine ⟨a1, f1, by omega, hF.1, s1, by omega, g1, by omega, k1, wl_c9_spread (X0 := A (r (cw_g K (r h 4) p.toNat) 0)) (X1 := A (r (cw_g K (r h 4) p.toNat) 1)) (S := fun q => q = 3 + p.toNat ∨ q = 5 + p.toNat) I.2.2.1 hdg h1 h3 h7 h9 s3 ⟨I.2.2.2.2.2.2.1 p.toNat (by omega), rfl, rfl⟩ (Or.inl k2) (by rw [sS]; show ¬ (_ ∨ _); omega) m1 (Or.inr m2) (by omega) (I.2.2.2.2.2.2.2.1 p.toNat (by omega)) (fun z' A' J' F' W' T' => hQ z' A' (ci_keep I F' J' (by show ¬ (_ ∨ _); omega) (fun q => by omega) (fun q => by omega) (fun i hi q => ?_) (fun i hi q => ?_) (fun i hi q => by omega) (fun i hi q => by omega)) (F' h (by rw [a2]; omega)).1 (F' _ (by rw [c2]; omega)).1 ⟨⟨cF_mono F' (fun q hq => by omega), fun y _ => by rw [(F' h (by rw [a2]; omega)).1]⟩, fun i hi => ?_⟩)⟩
  · have : i = p.toNat := by omega
    rw [this]
    exact W'.1
  · have : i = p.toNat := by omega
    rw [this]
    exact T'
  · by_cases e : i = p.toNat
    · rw [e]
      exact ⟨W'.2.1, W'.2.2, by rw [(F' _ (by rw [(l3 (2 + p.toNat) (by omega)).2]; show ¬ (_ ∨ _); omega)).1], (F' _ (by rw [(h6 _ (j3 p.toNat (by omega)).1).1.2.2.2, (j3 p.toNat (by omega)).2]; show ¬ (_ ∨ _); omega)).2⟩
    · obtain ⟨u1, u2⟩ := f3 i hi
      obtain ⟨v1, v2, -⟩ := h9 _ u1
      exact ⟨(F' _ (by rw [v1.2.2.2, u2]; show ¬ (_ ∨ _); omega)).2, (F' _ (by rw [v2.2.2.2, u2]; show ¬ (_ ∨ _); omega)).2, by rw [(F' _ (by rw [(l3 (2 + i) (by omega)).2]; show ¬ (_ ∨ _); omega)).1], (F' _ (by rw [(h6 _ (j3 i hi).1).1.2.2.2, (j3 i hi).2]; show ¬ (_ ∨ _); omega)).2⟩
theorem we_c11_solve (I : ci_I L K r w ρ z A h) {Q : (Nat → Nat → Int) → (Nat → Nat → Int) → Prop} {X : String → (Nat → Nat → Int) → (Nat → Nat → Int) → Prop} (hQ : ∀ z' A' : Nat → Nat → Int, ci_I L K r w ρ z' A' h → z' (r (r h 0) 2) 1 = z (r (r h 0) 2) 1 → ci_E K r ρ h z A z' A' → Q z' A') (hX : X "java/lang/IllegalStateException" z A) : wp_c11_solve L K z r A h Q X := by
  obtain ⟨hdg, h1, h2, h3, h4, h6, h7, h8, h9⟩ := id I.1
  obtain ⟨⟨a1, a2⟩, -, ⟨c1, c2, c3⟩, -, ⟨v1, v2⟩, -, -, ⟨i1, i2, i3⟩, -, -, ⟨l1, l2, l3⟩, -⟩ := id I.2.1
  have pg := (ci_g I).2
  have g1 := I.2.2.2.2.1
  obtain ⟨p1, p2⟩ := i3 0 (by omega)
  obtain ⟨q1, q2⟩ := i3 1 (by omega)
  obtain ⟨R1, R2⟩ := l3 0 (by omega)
  refine ⟨a1, by omega, fun c => ?_, fun _ => hX⟩
  have hg : z h 14 = 1 := by omega
  have hF := I.2.2.2.2.2.1 hg
  refine ⟨v1, wq_c8_work (S := fun q => q = 2) I.2.2.1 hdg h1 h2 h7 h8 v1 v2 hF (by show ¬ ρ (r h 13) = 2; omega) (fun z1 A1 J1 F1 hI1 => ⟨i1, by omega, by omega, ?_⟩)⟩
  obtain ⟨m9, a9, b9, c9, hI1⟩ := hI1
  show wp_c8_handOver L K z1 r A1 (r h 3) (cw_g K (r h 6) 0) (cw_g K (r h 6) 1) _
  refine wq_c8_handOver (S := fun q => q = 7 ∨ q = 8) J1 h1 h3 h8 v1 hI1 p1 q1 (Or.inl p2) (Or.inr q2) (fun e => by rw [e] at p2; omega) (by rw [v2]; omega) (fun z2 A2 J2 F2 M2 N2 => ⟨l1, by omega, ?_⟩)
  have hI2 := cz_I_keepF h1 h8 v1 hI1 F2 (by rw [v2]; omega)
  refine wq_c8_top (S := fun q => q = 2) J2 h1 h8 v1 v2 hI2 (fun z3 A3 J3 F3 lt3 => ⟨by omega, p1, (h3 _ p1).1.1, by have := (h3 _ p1).1.2.1; show (0 : Int) ≤ 0 ∧ (0 : Int) < (cw_n K (r (cw_g K (r h 6) 0) 0) : Int); omega, hF.1, R1, ?_⟩)
  show wp_c4_put L K z3 r A3 (cw_g K (r h 9) 0) (r (r h 3) 10) (cw_g K (r (cw_g K (r h 6) 0) 0) 0) (z3 (r h 13) 2) _
  obtain ⟨⟨y1, y2, y3, y4⟩, -⟩ := h3 _ p1
  obtain ⟨⟨x1, x2, x3, x4⟩, -⟩ := h3 _ q1
  obtain ⟨-, -, -, -, -, ⟨t1, t2, t3, t4⟩, -, -⟩ := h8 _ v1
  have lp := (J3.1.2 _ (y4 0 (by omega)).1).1
  have lq := (y4 0 (by omega)).2.1
  refine wq_c4_put (S := fun q => q = 12) J3 h1 h4 R1 R2 t1 (y4 0 (by omega)).1 (by rw [t4, v2, R2]; decide) (by rw [(y4 0 (by omega)).2.2.2, p2, R2]; decide) lt3 (by omega) (fun z4 A4 J4 F4 kn => ?_)
  have F : cF ρ (fun q => q = 2 ∨ q = 7 ∨ q = 8 ∨ q = 12) z A z4 A4 := cF_trans (cF_trans (cF_trans (cF_mono F1 (fun q hq => Or.inl hq)) (cF_mono F2 (fun q hq => by omega))) (cF_mono F3 (fun q hq => Or.inl hq))) (cF_mono F4 (fun q hq => by omega))
  have F34 : cF ρ (fun q => q = 2 ∨ q = 12) z2 A2 z4 A4 := cF_trans (cF_mono F3 (fun q hq => Or.inl hq)) (cF_mono F4 (fun q hq => Or.inr hq))
  refine hQ z4 A4 (ci_keep I F J4 (by show ¬ (_ ∨ _ ∨ _ ∨ _); omega) (fun q => by omega) (fun q => by omega) (fun i hi q => by omega) (fun i hi q => by omega) (fun i hi q => ?_) (fun i hi q => ?_)) (by rw [(F _ (by rw [c2]; omega)).1]) (ci_E_of I F (fun q hq => by omega) (fun y _ => by rw [(F h (by rw [a2]; omega)).1]) (ci_k_of I F (fun q hq => by omega)))
  · have : i = 0 ∨ i = 1 := by omega
    rcases this with rfl | rfl
    · intro x hx
      rw [(cF_big h1 F34 (y4 x hx).1 (by rw [(y4 x hx).2.2.2, p2]; omega)).1]
      exact M2 x hx
    · intro x hx
      rw [(cF_big h1 F34 (x4 x hx).1 (by rw [(x4 x hx).2.2.2, q2]; omega)).1]
      exact N2 x hx
  · have : i = 0 := by omega
    subst this
    exact ⟨Or.inr kn, fun _ => hg⟩
theorem we_c11_expect (I : ci_I L K r w ρ z A h) {Q : (Nat → Nat → Int) → (Nat → Nat → Int) → Prop} {X : String → (Nat → Nat → Int) → (Nat → Nat → Int) → Prop} (hQ : ∀ z' A' : Nat → Nat → Int, ci_I L K r w ρ z' A' h → z' (r (r h 0) 2) 1 = z (r (r h 0) 2) 1 → ci_E K r ρ h z A z' A' → Q z' A') (hX : X "java/lang/IllegalStateException" z A) : wp_c11_expect L K z r A h Q X := by
  obtain ⟨hdg, h1, h2, h3, h4, h6, h7, h8, h9⟩ := id I.1
  obtain ⟨⟨a1, a2⟩, -, ⟨c1, c2, c3⟩, -, -, -, ⟨g1, g2, g3⟩, -, -, ⟨k1, k2⟩, ⟨l1, l2, l3⟩, -, ⟨n1, n2, n3, n4⟩, ⟨o1, o2, o3, o4⟩, -⟩ := id I.2.1
  have pg := (ci_g I).2
  have gg := I.2.2.2.2.1
  have no : wp_c11_expect_23 L K z r A Q X := hX
  refine ⟨a1, by omega, fun _ => no, fun c => ?_⟩
  have hg : z h 14 = 1 := by omega
  refine wq_c11_isGood I (Or.inl rfl) hg (fun v hv => ⟨by omega, fun _ => no, fun _ => ?_⟩)
  refine wq_c11_isGood I (Or.inr rfl) hg (fun v2 hv2 => ⟨by omega, fun _ => ?_, fun _ => no⟩)
  refine we_c11_spreadWay I (Or.inl rfl) hg (fun z1 A1 I1 zh1 zw1 dd1 => ?_)
  have hg1 : z1 h 14 = 1 := by rw [zh1]; exact hg
  refine we_c11_spreadWay I1 (Or.inr rfl) hg1 (fun z2 A2 I2 zh2 zw2 dd2 => ⟨g1, by omega, by omega, k1, ?_⟩)
  have hg2 : z2 h 14 = 1 := by rw [zh2]; exact hg1
  have hF2 := I2.2.2.2.2.2.1 hg2
  obtain ⟨p1, p2⟩ := g3 0 (by omega)
  obtain ⟨q1, q2⟩ := g3 1 (by omega)
  obtain ⟨R1, R2⟩ := l3 1 (by omega)
  have J2 := I2.2.2.1
  have eO : ∀ t a, cw_O L K t a → ¬ t = 11 → lp_U ρ h 99 a = ρ a := fun t a ha ht => lp_U_other (cw_O_ne ha a1 ht)
  obtain ⟨-, h1', h2', h3', h4', h6', h7', h8', h9'⟩ := ci_S1_h (fun a ha => (J2.1.1.1 a ha).1) a1 I.1
  show wp_c6_meet L K z2 r A2 (r h 8) (r h 13) (cw_g K (r h 5) 0) (cw_g K (r h 5) 1) (r h 11) _
  refine wq_c6_meet (ρ := lp_U ρ h 99) (S := fun q => q = 0 ∨ q = 11) J2 h1' h2' h3' h6' h7' k1 (by rw [eO _ _ k1 (by decide), k2]; exact Or.inr rfl) hF2 (by rw [eO _ _ hF2.1 (by decide)]; omega) p1 (by rw [eO _ _ p1 (by decide), p2]; omega) (I2.2.2.2.2.2.2.2.1 0 (by omega)) q1 (by rw [eO _ _ q1 (by decide), q2]; omega) (I2.2.2.2.2.2.2.2.1 1 (by omega)) n1 n2 (by rw [eO _ _ n1 (by decide), n4, a2]; exact Or.inl rfl) (by rw [eO _ _ n1 (by decide), eO _ _ k1 (by decide), n4, a2, k2]; decide) (fun z3 A3 J3 F3 => ?_)
  have zh3 : z3 h = z2 h := (F3 h (by rw [lp_U_same]; omega)).1
  have F3r : cF ρ (fun q => q = 0 ∨ q = 11) z2 A2 z3 A3 := fun a ha => F3 a (by
    have : a ≠ h := fun e => ha (by rw [e, a2]; exact Or.inl rfl)
    rw [lp_U_other this]
    exact ha)
  obtain ⟨⟨y1, y2, y3, y4⟩, -⟩ := h3 _ p1
  obtain ⟨⟨x1, x2, x3, x4⟩, -⟩ := h3 _ q1
  have T0 := I2.2.2.2.2.2.2.2.1 0 (by omega) 0 (by omega)
  have T1 := I2.2.2.2.2.2.2.2.1 1 (by omega) 0 (by omega)
  have e0 : z3 (cw_g K (r (cw_g K (r h 5) 0) 0) 0) = z2 (cw_g K (r (cw_g K (r h 5) 0) 0) 0) := (F3r _ (by rw [(y4 0 (by omega)).2.2.2, p2]; omega)).1
  have e1 : z3 (cw_g K (r (cw_g K (r h 5) 1) 0) 0) = z2 (cw_g K (r (cw_g K (r h 5) 1) 0) 0) := (F3r _ (by rw [(x4 0 (by omega)).2.2.2, q2]; omega)).1
  refine ⟨by omega, p1, y1, by show (0 : Int) ≤ 0 ∧ (0 : Int) < (cw_n K (r (cw_g K (r h 5) 0) 0) : Int); omega, by omega, q1, x1, by show (0 : Int) ≤ 0 ∧ (0 : Int) < (cw_n K (r (cw_g K (r h 5) 1) 0) : Int); omega, o1, ?_⟩
  show wp_c0_putProduct L K z3 r A3 (r h 12) (cw_g K (r (cw_g K (r h 5) 0) 0) 0) (cw_g K (r (cw_g K (r h 5) 1) 0) 0) _
  have na : ∀ b, cw_O L K 0 b → ρ b = 5 ∨ ρ b = 6 → b ≠ r h 12 := fun b hb e q => by
    rw [q, o4, a2] at e
    omega
  refine wq_c0_putProduct J3.1 o1 (y4 0 (by omega)).1 (x4 0 (by omega)).1 (na _ (y4 0 (by omega)).1 (by rw [(y4 0 (by omega)).2.2.2, p2]; omega)) (na _ (x4 0 (by omega)).1 (by rw [(x4 0 (by omega)).2.2.2, q2]; omega)) (by rw [e0, e1]; omega) (fun z4 A4 b4 Y4 _ _ => ⟨l1, by omega, hF2.1, R1, ?_⟩)
  have J4 : cJ L K r z4 A4 := cJ_Y J3 o1 b4 Y4
  show wp_c4_put L K z4 r A4 (cw_g K (r h 9) 1) (r h 11) (r h 12) (z4 (r h 13) 2) _
  have ls := (J4.1.2 _ n1).1
  have lw := (J4.1.2 _ o1).1
  refine wq_c4_put (S := fun q => q = 13) J4 h1 h4 R1 R2 n1 o1 (by rw [n4, a2, R2]; decide) (by rw [o4, a2, R2]; decide) (by omega) (by omega) (fun z5 A5 J5 F5 kn => ?_)
  have F4 : cF ρ (fun q => q = 0) z3 A3 z4 A4 := cF_Y h1 o1 (by rw [o4]; exact a2) Y4
  have F : cF ρ (fun q => q = 0 ∨ q = 11 ∨ q = 13) z2 A2 z5 A5 := cF_trans (cF_trans (cF_mono F3r (fun q hq => by omega)) (cF_mono F4 (fun q hq => Or.inl hq))) (cF_mono F5 (fun q hq => by omega))
  have zh5 : z5 h = z2 h := by rw [(F5 h (by rw [a2]; omega)).1, Y4.1 h (cw_O_ne a1 o1 (by decide)), zh3]
  refine hQ z5 A5 (ci_keep I2 F J5 (by show ¬ (_ ∨ _ ∨ _); omega) (fun _ => by rw [zh5]; exact ⟨rfl, I2.2.2.2.2.2.2.2.2.2.2.1, I2.2.2.2.2.2.2.2.2.2.2.2⟩) (fun q => by omega) (fun i hi q => by omega) (fun i hi q => by omega) (fun i hi q => by omega) (fun i hi q => ?_)) (by rw [(F _ (by rw [c2]; omega)).1, zw2, zw1]) (ci_E_trans (ci_E_trans dd1 dd2) (ci_E_of I2 F (fun q hq => by omega) (fun y _ => by rw [zh5]) (ci_k_of I2 F (fun q hq => by omega))))
  have : i = 1 := by omega
  subst this
  exact ⟨Or.inr kn, fun _ => hg2⟩
end CI
