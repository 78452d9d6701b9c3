-- 18.b13
/-- who holds whom: w gives each owned thing its holder and place, ρ its region -/
noncomputable def cg_A (L : List Nat) (K : Nat → cw_K) (r : Nat → Nat → Nat) (w : Nat → Nat × Nat) (ρ : Nat → Nat) (t n a k : Nat) : Prop := cw_A L K t (r a k) ∧ cw_n K (r a k) = n ∧ w (r a k) = (a, k) ∧ ρ (r a k) = ρ a
noncomputable def cg_O (L : List Nat) (K : Nat → cw_K) (r : Nat → Nat → Nat) (w : Nat → Nat × Nat) (ρ : Nat → Nat) (ci a k : Nat) : Prop := cw_O L K ci (r a k) ∧ w (r a k) = (a, k) ∧ ρ (r a k) = ρ a
noncomputable def cg_B (L : List Nat) (K : Nat → cw_K) (r : Nat → Nat → Nat) (w : Nat → Nat × Nat) (ρ : Nat → Nat) (n a k : Nat) : Prop := cw_O L K 0 (r a k) ∧ cw_n K (r (r a k) 0) = n ∧ w (r a k) = (a, k) ∧ ρ (r a k) = ρ a
noncomputable def cg_L (L : List Nat) (K : Nat → cw_K) (r : Nat → Nat → Nat) (w : Nat → Nat × Nat) (ρ : Nat → Nat) (N n a k : Nat) : Prop := cw_G L K 4 (r a k) ∧ cw_n K (r a k) = N ∧ w (r a k) = (a, k) ∧ ∀ i, i < N → cw_O L K 0 (cw_g K (r a k) i) ∧ cw_n K (r (cw_g K (r a k) i) 0) = n ∧ w (cw_g K (r a k) i) = (r a k, i) ∧ ρ (cw_g K (r a k) i) = ρ a
noncomputable def cg_1 (L : List Nat) (K : Nat → cw_K) (r : Nat → Nat → Nat) (w : Nat → Nat × Nat) (ρ : Nat → Nat) : Prop := (∀ a, cw_O L K 0 a → ρ (r a 0) = ρ a) ∧ ∀ a, cw_O L K 1 a → cg_B L K r w ρ 32 a 0
noncomputable def cg_4 (L : List Nat) (K : Nat → cw_K) (r : Nat → Nat → Nat) (w : Nat → Nat × Nat) (ρ : Nat → Nat) : Prop := ∀ a, cw_O L K 4 a → cg_B L K r w ρ 32 a 0 ∧ cg_B L K r w ρ 32 a 1 ∧ cg_B L K r w ρ 64 a 3 ∧ cg_B L K r w ρ 64 a 4 ∧ cg_O L K r w ρ 1 a 5
noncomputable def cg_3 (L : List Nat) (K : Nat → cw_K) (r : Nat → Nat → Nat) (w : Nat → Nat × Nat) (ρ : Nat → Nat) : Prop := ∀ a, cw_O L K 3 a → cg_L L K r w ρ 20 32 a 0 ∧ cg_B L K r w ρ 32 a 1
noncomputable def cg_6 (L : List Nat) (K : Nat → cw_K) (r : Nat → Nat → Nat) (w : Nat → Nat × Nat) (ρ : Nat → Nat) : Prop := ∀ a, cw_O L K 6 a → cg_A L K r w ρ 0 10 a 0 ∧ cg_A L K r w ρ 3 10 a 1 ∧ cg_L L K r w ρ 20 32 a 2 ∧ cg_B L K r w ρ 2 a 3 ∧ cg_B L K r w ρ 64 a 4
noncomputable def cg_7 (L : List Nat) (K : Nat → cw_K) (r : Nat → Nat → Nat) (w : Nat → Nat × Nat) (ρ : Nat → Nat) : Prop := ∀ a, cw_O L K 7 a → cg_A L K r w ρ 0 10 a 1 ∧ cg_A L K r w ρ 0 10 a 2 ∧ cg_A L K r w ρ 0 10 a 3 ∧ cg_A L K r w ρ 0 10 a 4 ∧ cg_A L K r w ρ 0 10 a 6 ∧ cg_A L K r w ρ 0 10 a 7
noncomputable def cg_2 (L : List Nat) (K : Nat → cw_K) (r : Nat → Nat → Nat) (w : Nat → Nat × Nat) (ρ : Nat → Nat) : Prop := ∀ a, cw_O L K 2 a → cg_A L K r w ρ 0 4 a 0 ∧ (cw_G L K 7 (r a 1) ∧ cw_n K (r a 1) = 2 ∧ ∀ i, i < 2 → cw_O L K 7 (cw_g K (r a 1) i) ∧ w (cw_g K (r a 1) i) = (r a 1, i) ∧ ρ (cw_g K (r a 1) i) = ρ a) ∧ (cw_G L K 10 (r a 3) ∧ cw_n K (r a 3) = 20 ∧ ∀ i, i < 20 → cw_A L K 1 (cw_g K (r a 3) i) ∧ cw_n K (cw_g K (r a 3) i) = 20 ∧ w (cw_g K (r a 3) i) = (r a 3, i) ∧ ρ (cw_g K (r a 3) i) = ρ a)
noncomputable def cg_8 (L : List Nat) (K : Nat → cw_K) (r : Nat → Nat → Nat) (w : Nat → Nat × Nat) (ρ : Nat → Nat) : Prop := ∀ a, cw_O L K 8 a → cg_L L K r w ρ 900 32 a 0 ∧ cg_A L K r w ρ 0 30 a 1 ∧ cg_A L K r w ρ 0 30 a 2 ∧ cg_A L K r w ρ 1 10 a 3 ∧ cg_B L K r w ρ 32 a 9 ∧ cg_B L K r w ρ 64 a 10 ∧ cg_B L K r w ρ 64 a 11 ∧ cg_O L K r w ρ 1 a 12
noncomputable def cg_9 (L : List Nat) (K : Nat → cw_K) (r : Nat → Nat → Nat) (w : Nat → Nat × Nat) (ρ : Nat → Nat) : Prop := ∀ a, cw_O L K 9 a → cg_A L K r w ρ 0 40 a 0 ∧ cg_A L K r w ρ 0 40 a 1 ∧ cg_A L K r w ρ 0 10 a 2
/-- nothing outside these regions has changed -/
noncomputable def cF (ρ : Nat → Nat) (S : Nat → Prop) (z A z' A' : Nat → Nat → Int) : Prop := ∀ a, ¬ S (ρ a) → z' a = z a ∧ A' a = A a
theorem cF_refl (ρ : Nat → Nat) (S : Nat → Prop) (z A : Nat → Nat → Int) : cF ρ S z A z A := fun _ _ => ⟨rfl, rfl⟩
theorem cF_trans {ρ : Nat → Nat} {S : Nat → Prop} {z A z1 A1 z2 A2 : Nat → Nat → Int} (h1 : cF ρ S z A z1 A1) (h2 : cF ρ S z1 A1 z2 A2) : cF ρ S z A z2 A2 := fun a h => ⟨(h2 a h).1.trans (h1 a h).1, (h2 a h).2.trans (h1 a h).2⟩
theorem cF_mono {ρ : Nat → Nat} {S T : Nat → Prop} {z A z1 A1 : Nat → Nat → Int} (h : cF ρ S z A z1 A1) (hST : ∀ q, S q → T q) : cF ρ T z A z1 A1 := fun a ha => h a (fun q => ha (hST _ q))
/-- what every array of numbers holds -/
noncomputable def cr_A (L : List Nat) (K : Nat → cw_K) (A : Nat → Nat → Int) : Prop := ∀ x, (cw_A L K 0 x → ∀ i, hz_rI (A x i)) ∧ (cw_A L K 1 x → ∀ i, hz_rL (A x i)) ∧ (cw_A L K 2 x → ∀ i, 0 ≤ A x i ∧ A x i < 65536) ∧ (cw_A L K 3 x → ∀ i, A x i = 0 ∨ A x i = 1)
section CG
variable {L : List Nat} {K : Nat → cw_K} {r : Nat → Nat → Nat} {z A : Nat → Nat → Int} {w : Nat → Nat × Nat} {ρ : Nat → Nat} {S : Nat → Prop} {b : Nat}
theorem cF_Y (h1 : cg_1 L K r w ρ) (hO : cw_O L K 0 b) (hS : S (ρ b)) {z' A' : Nat → Nat → Int} (h : cb_Y r b z A z' A') : cF ρ S z A z' A' := by
  intro a ha
  refine ⟨h.1 a (fun e => ha (by rw [e]; exact hS)), h.2 a (fun e => ha ?_)⟩
  rw [e, h1.1 b hO]
  exact hS
theorem cF_z {z' : Nat → Nat → Int} (h : ∀ a, ¬ S (ρ a) → z' a = z a) : cF ρ S z A z' A := fun a ha => ⟨h a ha, rfl⟩
theorem cF_s {a k : Nat} {v : Int} (hS : S (ρ a)) : cF ρ S z A (cw_s z a k v) A := fun x hx => ⟨cw_s_a (fun e => hx (by rw [e]; exact hS)), rfl⟩
theorem cF_st {a : Nat} {i v : Int} (hS : S (ρ a)) : cF ρ S z A z (hz_s A a i v) := fun x hx => ⟨rfl, hz_s_a (fun e => hx (by rw [e]; exact hS))⟩
theorem cF_big (h1 : cg_1 L K r w ρ) {z' A' : Nat → Nat → Int} (h : cF ρ S z A z' A') (hO : cw_O L K 0 b) (hb : ¬ S (ρ b)) : cb_u r z' A' b = cb_u r z A b ∧ cb_v r z' A' b = cb_v r z A b ∧ z' b = z b := by
  have e1 := (h b hb).1
  have e2 := (h (r b 0) (by rw [h1.1 b hO]; exact hb)).2
  unfold cb_v cb_u
  rw [e1, e2]
  exact ⟨rfl, rfl, rfl⟩
theorem cr_A_Y (h : cr_A L K A) (hO : cw_O L K 0 b) {z' A' : Nat → Nat → Int} (hS : cb_S L K r A') (hY : ∀ a, a ≠ r b 0 → A' a = A a) : cr_A L K A' := by
  intro x
  by_cases hx : x = r b 0
  · subst hx
    have e := (hS.1 b hO).1
    refine ⟨fun _ => (hS.1 b hO).2.2, fun q => ?_, fun q => ?_, fun q => ?_⟩
    all_goals
      have e1 := e.2.2
      have e2 := q.2.2
      rw [e1] at e2
      simp at e2
  · rw [hY x hx]
    exact h x
theorem cw_A_ne {t u x : Nat} (h1 : cw_A L K t x) (h2 : cw_A L K u x) : t = u := by
  have e1 := h1.2.2
  have e2 := h2.2.2
  rw [e1] at e2
  simp at e2
  exact e2
theorem cw_OA_ne {c t x y : Nat} (h1 : cw_O L K c x) (h2 : cw_A L K t y) : x ≠ y := by
  intro e
  subst e
  have := h1.2.symm.trans h2.2.2
  simp at this
theorem cw_OG_ne {c t x y : Nat} (h1 : cw_O L K c x) (h2 : cw_G L K t y) : x ≠ y := by
  intro e
  subst e
  have := h1.2.symm.trans h2.2.2
  simp at this
/-- two owned things at different places are two -/
theorem cg_ne {x y a k b j : Nat} (h1 : w x = (a, k)) (h2 : w y = (b, j)) (h : ¬ (a = b ∧ k = j)) : x ≠ y := by
  intro e
  subst e
  have := h1.symm.trans h2
  simp at this
  exact h this
end CG

-- 18.b14
section CR
variable {L : List Nat} {K : Nat → cw_K} {r : Nat → Nat → Nat} {z A : Nat → Nat → Int} {w : Nat → Nat × Nat} {ρ : Nat → Nat} {S : Nat → Prop} {R : Nat}
/-- numbers well formed, arrays in their ranges -/
noncomputable def cJ (L : List Nat) (K : Nat → cw_K) (r : Nat → Nat → Nat) (z A : Nat → Nat → Int) : Prop := cb_all L K r z A ∧ cr_A L K A
theorem cJ_Y {b : Nat} (h : cJ L K r z A) (hO : cw_O L K 0 b) {z' A' : Nat → Nat → Int} (ha : cb_all L K r z' A') (hY : cb_Y r b z A z' A') : cJ L K r z' A' := ⟨ha, cr_A_Y (z' := z') h.2 hO ha.1 hY.2⟩
/-- an odd number of the size's: by lowZeros and shiftDown -/
theorem cd_oddpart {u m : Int} {s : Nat} (hu : ¬ u = 0) (h : ¬ u = 0 → u = m * 2 ^ s ∧ m % 2 = 1) (h0 : 0 ≤ u) : u / 2 ^ s = m ∧ 0 < m := by
  obtain ⟨h1, h2⟩ := h hu
  have hp := Int.pow_pos (m := s) (show (0 : Int) < 2 by decide)
  have e : u / 2 ^ s = m := by rw [h1, Int.mul_ediv_cancel _ (by omega)]
  refine ⟨e, ?_⟩
  have : 0 ≤ m := by rw [← e]; exact Int.ediv_nonneg h0 (by omega)
  omega
/-- at most so many zeros taken away: still not 0 -/
theorem cd_few {u m : Int} {s t : Nat} (hu : ¬ u = 0) (h : ¬ u = 0 → u = m * 2 ^ s ∧ m % 2 = 1) (h0 : 0 ≤ u) (hts : t ≤ s) : 0 < u / 2 ^ t := by
  obtain ⟨e, m0⟩ := cd_oddpart hu h h0
  obtain ⟨h1, h2⟩ := h hu
  have hp := Int.pow_pos (m := t) (show (0 : Int) < 2 by decide)
  have hq := Int.pow_pos (m := s - t) (show (0 : Int) < 2 by decide)
  rw [h1, show (2 : Int) ^ s = 2 ^ (s - t) * 2 ^ t by rw [← Int.pow_add, show s - t + t = s by omega], ← Int.mul_assoc, Int.mul_ediv_cancel _ (by omega)]
  exact Int.mul_pos m0 hq
theorem wq_c4_shareTwos (h : cJ L K r z A) (h1 : cg_1 L K r w ρ) (h4 : cg_4 L K r w ρ) (hO : cw_O L K 4 R) (hR : S (ρ R)) (hnz : ¬ cb_u r z A (r R 0) = 0) {Q : (Nat → Nat → Int) → (Nat → Nat → Int) → Prop} (hQ : ∀ z' A' : Nat → Nat → Int, cJ L K r z' A' → cF ρ S z A z' A' → (∀ a, a ≠ r R 0 → a ≠ r R 1 → z' a = z a) → ¬ cb_u r z' A' (r R 0) = 0 → Q z' A') : wp_c4_shareTwos L K z r A R Q := by
  obtain ⟨⟨t1, t2, t3, t4⟩, ⟨b1, b2, b3, b4⟩, -, -, -⟩ := h4 R hO
  have ne : r R 0 ≠ r R 1 := cg_ne t3 b3 (by simp)
  refine ⟨hO, t1, wq_c0_lowZeros h.1 t1 (fun s s0 _ hs => ⟨b1, wq_c0_lowZeros h.1 b1 (fun t ht0 _ ht => ⟨by omega, by omega, fun x ex => ?_⟩)⟩)⟩
  obtain ⟨m, hm⟩ := hs
  obtain ⟨q, hq, hqs⟩ : ∃ q : Nat, x = (q : Int) ∧ q ≤ s := ⟨x.toNat, by omega, by omega⟩
  rw [hq]
  refine wq_c0_shiftDown h.1 t1 (by omega) (fun z1 A1 k1 hY1 hu1 hl1 hs1 => ?_)
  refine wq_c0_shiftDown k1 b1 (by omega) (fun z2 A2 k2 hY2 hu2 hl2 hs2 => ?_)
  refine hQ z2 A2 (cJ_Y (cJ_Y h t1 k1 hY1) b1 k2 hY2) (cF_trans (cF_Y h1 t1 (by rw [t4]; exact hR) hY1) (cF_Y h1 b1 (by rw [b4]; exact hR) hY2)) (fun a a1 a2 => by rw [hY2.1 a a2, hY1.1 a a1]) ?_
  rw [(cb_k_other k1.1 b1 t1 ne hY2).2.1, hu1]
  have := cd_few hnz hm (cb_u_nn _ _ _ _) hqs
  omega
theorem wq_c4_findOddDivisor (h : cJ L K r z A) (h1 : cg_1 L K r w ρ) (h4 : cg_4 L K r w ρ) (hO : cw_O L K 4 R) (hR : S (ρ R)) (hnz : ¬ cb_u r z A (r R 0) = 0) {Q : (Nat → Nat → Int) → (Nat → Nat → Int) → Prop} (hQ : ∀ z' A' : Nat → Nat → Int, cJ L K r z' A' → cF ρ S z A z' A' → (∀ a, a ≠ r R 3 → a ≠ r R 4 → z' a = z a) → ¬ cb_u r z' A' (r R 3) = 0 → z' (r R 3) 2 = 0 → z' (r R 3) 1 ≤ 32 → Q z' A') : wp_c4_findOddDivisor L K z r A R Q := by
  obtain ⟨⟨t1, t2, t3, t4⟩, ⟨b1, b2, b3, b4⟩, ⟨f1, f2, f3, f4⟩, ⟨s1, s2, s3, s4⟩, -⟩ := h4 R hO
  have fs : r R 3 ≠ r R 4 := cg_ne f3 s3 (by simp)
  have ft : r R 3 ≠ r R 0 := cg_ne f3 t3 (by simp)
  have fS : S (ρ (r R 3)) := by rw [f4]; exact hR
  have sS : S (ρ (r R 4)) := by rw [s4]; exact hR
  have tk := (h.1.2 _ t1).1
  refine ⟨hO, f1, wq_c0_copy h.1 f1 t1 (by omega) (fun z1 A1 k1 hY1 hu1 _ hl1 hs1 z2 e2 => ?_)⟩
  have kk1 := k1.2 _ f1
  have a1 : z2 (r R 3) 1 = z1 (r R 3) 1 := by rw [e2, cw_s_k (by decide)]
  have a2 : z2 (r R 3) 2 = 0 := by rw [e2, cw_s_same]
  have hY2 : cb_Y r (r R 3) z1 A1 z2 A1 := ⟨fun a ha => by rw [e2, cw_s_a ha], fun _ _ => rfl⟩
  have k2 : cb_all L K r z2 A1 := cb_all_of k1 f1 hY2 k1.1 (by
    unfold cb_k
    rw [a1, a2]
    exact ⟨kk1.1, Or.inl rfl, kk1.2.2.1, fun _ => rfl⟩)
  have u2 : cb_u r z2 A1 (r R 3) = cb_u r z A (r R 0) := by
    have : cb_u r z2 A1 (r R 3) = cb_u r z1 A1 (r R 3) := by unfold cb_u; rw [a1]
    rw [this, hu1]
  refine wq_c0_lowZeros k2 f1 (fun s s0 _ hs => ?_)
  obtain ⟨m, hm⟩ := hs
  have om := cd_oddpart (by rw [u2]; exact hnz) hm (cb_u_nn _ _ _ _)
  refine wq_c0_shiftDown k2 f1 (by omega) (fun z3 A3 k3 hY3 hu3 hl3 hs3 => ⟨s1, ?_⟩)
  have u3 : 0 < cb_u r z3 A3 (r R 3) := by rw [hu3, om.1]; exact om.2
  have g3 : z3 (r R 3) 2 = 0 := by
    have e0 := cb_u0 (k3.2 _ f1) k3.1 f1
    have := (k3.2 _ f1).1
    rw [hs3 (by omega)]
    exact a2
  have bk := (k3.2 _ b1).1
  refine wq_c0_copy k3 s1 b1 (by omega) (fun z4 A4 k4 hY4 hu4 _ hl4 hs4 => ?_)
  refine wq_c0_lowZeros k4 s1 (fun t t0 _ ht => ?_)
  refine wq_c0_shiftDown k4 s1 (by omega) (fun z5 A5 k5 hY5 hu5 hl5 hs5 => ?_)
  have o5 : z5 (r R 3) = z3 (r R 3) := by rw [hY5.1 _ fs, hY4.1 _ fs]
  have j5 : cJ L K r z5 A5 := cJ_Y (cJ_Y (cJ_Y (cJ_Y (cJ_Y h f1 k1 hY1) f1 k2 hY2) f1 k3 hY3) s1 k4 hY4) s1 k5 hY5
  have F5 : cF ρ S z A z5 A5 := cF_trans (cF_trans (cF_trans (cF_trans (cF_Y h1 f1 fS hY1) (cF_Y h1 f1 fS hY2)) (cF_Y h1 f1 fS hY3)) (cF_Y h1 s1 sS hY4)) (cF_Y h1 s1 sS hY5)
  have z5o : ∀ a, a ≠ r R 3 → a ≠ r R 4 → z5 a = z a := fun a n1 n2 => by rw [hY5.1 a n2, hY4.1 a n2, hY3.1 a n1, hY2.1 a n1, hY1.1 a n1]
  have u5 : 0 < cb_u r z5 A5 (r R 3) := by
    rw [(cb_k_other k4.1 s1 f1 fs hY5).2.1, (cb_k_other k3.1 s1 f1 fs hY4).2.1]
    exact u3
  intro P hP
  have key : ∀ (k n : Nat) (z6 A6 : Nat → Nat → Int) (x : Int), n + k = 100000 → x = (n : Int) → cJ L K r z6 A6 → cF ρ S z A z6 A6 → (∀ a, a ≠ r R 3 → a ≠ r R 4 → z6 a = z a) → 0 < cb_u r z6 A6 (r R 3) → z6 (r R 3) 2 = 0 → z6 (r R 3) 1 ≤ 32 → P z6 A6 x := by
    intro k
    induction k with
    | zero =>
      intro n z6 A6 x en ex j6 F6 o6 u6 g6 l6
      refine hP z6 A6 x ⟨by omega, fun _ => ?_, fun q => by omega⟩
      exact hQ z6 A6 j6 F6 o6 (by omega) g6 l6
    | succ k ih =>
      intro n z6 A6 x en ex j6 F6 o6 u6 g6 l6
      refine hP z6 A6 x ⟨by omega, fun q => by omega, fun _ => ⟨hO, f1, wq_c0_orderOfSizes j6.1 f1 s1 (fun y y1 y2 y3 y4 => ⟨by omega, fun q => ⟨by omega, fun q2 => ⟨by omega, fun q3 => ⟨hO, s1, ?_⟩, fun q3 => by omega⟩, fun q2 => ⟨by omega, fun q3 => by omega, fun q3 => ⟨hO, f1, ?_⟩⟩⟩, fun q => ?_⟩)⟩⟩
      · -- the second one is the greater
        have k6 := (j6.1.2 _ s1).1
        refine wq_c0_putDifference j6.1 s1 s1 f1 (by omega) (by omega) (fun z7 A7 k7 hY7 hu7 hl7 hs7 => ⟨s1, ?_⟩)
        refine wq_c0_lowZeros k7 s1 (fun t t0 _ ht => ?_)
        refine wq_c0_shiftDown k7 s1 (by omega) (fun z8 A8 k8 hY8 hu8 hl8 hs8 x9 e9 => ?_)
        refine ih (n + 1) z8 A8 x9 (by omega) (by omega) (cJ_Y (cJ_Y j6 s1 k7 hY7) s1 k8 hY8) (cF_trans (cF_trans F6 (cF_Y h1 s1 sS hY7)) (cF_Y h1 s1 sS hY8)) (fun a n1 n2 => by rw [hY8.1 a n2, hY7.1 a n2, o6 a n1 n2]) ?_ ?_ ?_
        · rw [(cb_k_other k7.1 s1 f1 fs hY8).2.1, (cb_k_other j6.1.1 s1 f1 fs hY7).2.1]; exact u6
        · rw [hY8.1 _ fs, hY7.1 _ fs]; exact g6
        · rw [hY8.1 _ fs, hY7.1 _ fs]; exact l6
      · have k6 := (j6.1.2 _ f1).1
        refine wq_c0_putDifference j6.1 f1 f1 s1 (by omega) (by omega) (fun z7 A7 k7 hY7 hu7 hl7 hs7 => ⟨f1, ?_⟩)
        have u7 : ¬ cb_u r z7 A7 (r R 3) = 0 := by omega
        refine wq_c0_lowZeros k7 f1 (fun t t0 _ ht => ?_)
        obtain ⟨m7, hm7⟩ := ht
        have om7 := cd_oddpart u7 hm7 (cb_u_nn _ _ _ _)
        refine wq_c0_shiftDown k7 f1 (by omega) (fun z8 A8 k8 hY8 hu8 hl8 hs8 x9 e9 => ?_)
        have u8 : 0 < cb_u r z8 A8 (r R 3) := by rw [hu8, om7.1]; exact om7.2
        have l7 : 0 < z7 (r R 3) 1 := by
          have e0 := cb_u0 (k7.2 _ f1) k7.1 f1
          have := (k7.2 _ f1).1
          omega
        have l8 : 0 < z8 (r R 3) 1 := by
          have e0 := cb_u0 (k8.2 _ f1) k8.1 f1
          have := (k8.2 _ f1).1
          omega
        refine ih (n + 1) z8 A8 x9 (by omega) (by omega) (cJ_Y (cJ_Y j6 f1 k7 hY7) f1 k8 hY8) (cF_trans (cF_trans F6 (cF_Y h1 f1 fS hY7)) (cF_Y h1 f1 fS hY8)) (fun a n1 n2 => by rw [hY8.1 a n1, hY7.1 a n1, o6 a n1 n2]) u8 ?_ (by omega)
        rw [hs8 l8, hs7 l7]
        exact g6
      · exact hQ z6 A6 j6 F6 o6 (by omega) g6 l6
  exact key 100000 0 z5 A5 0 (by omega) rfl j5 F5 z5o u5 (by rw [o5]; exact g3) (by rw [o5]; omega)
theorem wq_c4_put {a c : Nat} {y : Int} (h : cJ L K r z A) (h1 : cg_1 L K r w ρ) (h4 : cg_4 L K r w ρ) (hO : cw_O L K 4 R) (hR : S (ρ R)) (ha : cw_O L K 0 a) (hc : cw_O L K 0 c) (ra : ρ a ≠ ρ R) (rc : ρ c ≠ ρ R) (la : z a 1 ≤ 32) (lc : z c 1 ≤ 32) {Q : (Nat → Nat → Int) → (Nat → Nat → Int) → Prop} (hQ : ∀ z' A' : Nat → Nat → Int, cJ L K r z' A' → cF ρ S z A z' A' → z' R 2 = 1 → Q z' A') : wp_c4_put L K z r A R a c y Q := by
  obtain ⟨⟨t1, t2, t3, t4⟩, ⟨b1, b2, b3, b4⟩, ⟨f1, f2, f3, f4⟩, ⟨s1, s2, s3, s4⟩, ⟨d1, d2, d3⟩⟩ := h4 R hO
  obtain ⟨o1, o2, o3, o4⟩ := h1.2 _ d1
  have tS : S (ρ (r R 0)) := by rw [t4]; exact hR
  have bS : S (ρ (r R 1)) := by rw [b4]; exact hR
  have oS : S (ρ (r (r R 5) 0)) := by rw [o4, d3]; exact hR
  have tb : r R 0 ≠ r R 1 := cg_ne t3 b3 (by simp)
  have nRd : R ≠ r R 5 := cw_O_ne hO d1 (by decide)
  have ot : r (r R 5) 0 ≠ r R 0 := cg_ne o3 t3 (by simp; intro e; exact absurd e.symm nRd)
  have ob : r (r R 5) 0 ≠ r R 1 := cg_ne o3 b3 (by simp)
  have of : r R 3 ≠ r (r R 5) 0 := cg_ne f3 o3 (by simp)
  have last : ∀ z5 A5 : Nat → Nat → Int, cJ L K r z5 A5 → cF ρ S z A z5 A5 → wp_c4_put_86 L K z5 r A5 R Q := by
    intro z5 A5 j5 F5
    refine ⟨hO, fun z6 e6 => ?_⟩
    rw [e6]
    exact hQ _ A5 ⟨cb_all_z j5.1 (fun q hq => cw_s_a (cw_O_ne hq hO (by decide))), j5.2⟩ (cF_trans F5 (cF_s hR)) (cw_s_same _ _ _ _)
  refine ⟨hO, t1, wq_c0_copy h.1 t1 ha (by omega) (fun z1 A1 k1 hY1 hu1 _ hl1 hs1 => ⟨b1, ?_⟩)⟩
  have cne : c ≠ r R 0 := fun e => rc (by rw [e]; exact t4)
  refine wq_c0_copy k1 b1 hc (by rw [hY1.1 c cne]; omega) (fun z2 A2 k2 hY2 hu2 _ hl2 hs2 => ?_)
  refine wq_c0_scale k2 b1 (fun z3 A3 k3 hY3 hl3 _ => ?_)
  have j3 : cJ L K r z3 A3 := cJ_Y (cJ_Y (cJ_Y h t1 k1 hY1) b1 k2 hY2) b1 k3 hY3
  have F3 : cF ρ S z A z3 A3 := cF_trans (cF_trans (cF_Y h1 t1 tS hY1) (cF_Y h1 b1 bS hY2)) (cF_Y h1 b1 bS hY3)
  have kt := (k3.2 _ t1).1
  refine ⟨by omega, fun q => ?_, fun q => ?_⟩
  · have e0 := cb_u0 (k3.2 _ t1) k3.1 t1
    refine wq_c4_shareTwos j3 h1 h4 hO hR (fun q2 => q (e0.mpr q2)) (fun z4 A4 j4 F4 _ n4 => ?_)
    refine wq_c4_findOddDivisor j4 h1 h4 hO hR n4 (fun z5 A5 j5 F5 _ n5 g5 l5 => ⟨d1, ?_⟩)
    refine wq_c1_prepare j5.1 d1 o1 f1 of (by omega) n5 g5 (fun z6 A6 k6 hz6 _ hA6 _ hP6 => ?_)
    have j6 : cJ L K r z6 A6 := ⟨k6, cr_A_Y (z' := z6) j5.2 o1 k6.1 hA6⟩
    have F6 : cF ρ S z5 A5 z6 A6 := fun x hx => ⟨hz6 x (fun e => hx (by rw [e]; exact oS)) (fun e => hx (by rw [e, d3]; exact hR)), hA6 x (fun e => hx (by rw [e, h1.1 _ o1]; exact oS))⟩
    refine wq_c1_divide k6 d1 o1 t1 ot hP6 (fun z7 A7 k7 hY7 _ _ => ?_)
    have hP7 : cd_P r z7 A7 (r R 5) (cb_u r z5 A5 (r R 3)) := by
      unfold cd_P at hP6 ⊢
      rw [hY7.1 _ (cw_O_ne d1 t1 (by decide)), hY7.1 _ ot, (cb_k_other k6.1 t1 o1 ot hY7).2.1]
      exact hP6
    refine wq_c1_divide k7 d1 o1 b1 ob hP7 (fun z8 A8 k8 hY8 _ _ => ?_)
    exact last z8 A8 (cJ_Y (cJ_Y j6 t1 k7 hY7) b1 k8 hY8) (cF_trans (cF_trans (cF_trans (cF_trans (cF_trans F3 F4) F5) F6) (cF_Y h1 t1 tS hY7)) (cF_Y h1 b1 bS hY8))
  · refine wq_c0_put k3 b1 (by omega) (fun z4 A4 k4 hY4 _ _ => ?_)
    exact last z4 A4 (cJ_Y j3 b1 k4 hY4) (cF_trans F3 (cF_Y h1 b1 bS hY4))
theorem wq_c4_order {T : Nat} (h : cJ L K r z A) (h1 : cg_1 L K r w ρ) (h4 : cg_4 L K r w ρ) (hO : cw_O L K 4 R) (hT : cw_O L K 4 T) (hR : S (ρ R)) {Q : Int → (Nat → Nat → Int) → (Nat → Nat → Int) → Prop} (hQ : ∀ (x : Int) (z' A' : Nat → Nat → Int), cJ L K r z' A' → cF ρ S z A z' A' → (x = 0 ∨ x = 1 ∨ x = -1) → (∀ a, a ≠ r R 3 → a ≠ r R 4 → z' a = z a) → Q x z' A') : wp_c4_order L K z r A R T Q := by
  obtain ⟨⟨t1, t2, t3, t4⟩, ⟨b1, b2, b3, b4⟩, ⟨f1, f2, f3, f4⟩, ⟨s1, s2, s3, s4⟩, -⟩ := h4 R hO
  obtain ⟨⟨t1', t2', t3', t4'⟩, ⟨b1', b2', b3', b4'⟩, -, -, -⟩ := h4 T hT
  have kt := (h.1.2 _ t1).1
  have kb' := (h.1.2 _ b1').1
  refine ⟨hO, hT, f1, wq_c0_putProduct h.1 f1 t1 b1' (cg_ne t3 f3 (by simp)) (cg_ne b3' f3 (by simp)) (by omega) (fun z1 A1 k1 hY1 _ _ => ⟨s1, ?_⟩)⟩
  have kt' := (k1.2 _ t1').1
  have kb := (k1.2 _ b1).1
  refine wq_c0_putProduct k1 s1 t1' b1 (cg_ne t3' s3 (by simp)) (cg_ne b3 s3 (by simp)) (by omega) (fun z2 A2 k2 hY2 _ _ => ?_)
  refine wq_c0_order k2 f1 s1 (fun x x1 _ _ _ => ?_)
  exact hQ x z2 A2 (cJ_Y (cJ_Y h f1 k1 hY1) s1 k2 hY2) (cF_trans (cF_Y h1 f1 (by rw [f4]; exact hR) hY1) (cF_Y h1 s1 (by rw [s4]; exact hR) hY2)) x1 (fun a n1 n2 => by rw [hY2.1 a n2, hY1.1 a n1])
end CR

-- 18.b15
section CR
variable {L : List Nat} {K : Nat → cw_K} {r : Nat → Nat → Nat} {z A : Nat → Nat → Int} {w : Nat → Nat × Nat} {ρ : Nat → Nat} {S : Nat → Prop} {R : Nat}
theorem cr_A_st {x t : Nat} (h : cr_A L K A) (hx : cw_A L K t x) {i v : Int} (hv : (t = 0 → hz_rI v) ∧ (t = 1 → hz_rL v) ∧ (t = 2 → 0 ≤ v ∧ v < 65536) ∧ (t = 3 → v = 0 ∨ v = 1)) : cr_A L K (hz_s A x i v) := by
  intro y
  by_cases hy : y = x
  · subst hy
    refine ⟨fun q j => ?_, fun q j => ?_, fun q j => ?_, fun q j => ?_⟩
    all_goals
      have e := cw_A_ne hx q
      by_cases hj : j = i.toNat
      · subst hj
        rw [hz_s_same]
        first | exact hv.1 e | exact hv.2.1 e | exact hv.2.2.1 e | exact hv.2.2.2 e
      · rw [hz_s_i hj]
        first | exact (h y).1 q j | exact (h y).2.1 q j | exact (h y).2.2.1 q j | exact (h y).2.2.2 q j
  · rw [hz_s_a hy]
    exact h y
/-- an array that isn't a number's digits -/
theorem cb_all_st {x : Nat} (h : cb_all L K r z A) (hx : ∀ b, cw_O L K 0 b → r b 0 ≠ x) {i v : Int} : cb_all L K r z (hz_s A x i v) := by
  refine ⟨⟨fun b hb => ⟨(h.1.1 b hb).1, (h.1.1 b hb).2.1, ?_⟩, h.1.2⟩, fun b hb => ?_⟩
  · rw [hz_s_a (hx b hb)]; exact (h.1.1 b hb).2.2
  · have := h.2 b hb
    unfold cb_k at this ⊢
    rw [hz_s_a (hx b hb)]
    exact this
theorem cJ_st {x t : Nat} (h : cJ L K r z A) (hx : cw_A L K t x) (hd : ∀ b, cw_O L K 0 b → r b 0 ≠ x) {i v : Int} (hv : (t = 0 → hz_rI v) ∧ (t = 1 → hz_rL v) ∧ (t = 2 → 0 ≤ v ∧ v < 65536) ∧ (t = 3 → v = 0 ∨ v = 1)) : cJ L K r z (hz_s A x i v) := ⟨cb_all_st h.1 hd, cr_A_st h.2 hx hv⟩
/-- no array but one of ints is a number's digits -/
theorem cd_dig {x t : Nat} (h : cb_all L K r z A) (hx : cw_A L K t x) (ht : ¬ t = 0) : ∀ b, cw_O L K 0 b → r b 0 ≠ x := by
  intro b hb e
  have e1 := (h.1.1 b hb).1
  rw [e] at e1
  exact ht (cw_A_ne hx e1)
theorem wq_c4_writeSize {a x : Nat} {y : Int} (h : cJ L K r z A) (h1 : cg_1 L K r w ρ) (h4 : cg_4 L K r w ρ) (hO : cw_O L K 4 R) (hR : S (ρ R)) (ha : cw_O L K 0 a) (la : z a 1 ≤ 64) (hx : cw_A L K 2 x) (xn : cw_n K x < 2147483647) (hxS : S (ρ x)) (y0 : 0 ≤ y ∧ y ≤ (cw_n K x : Int)) {Q : Int → (Nat → Nat → Int) → (Nat → Nat → Int) → Prop} (hQ : ∀ (v : Int) (z' A' : Nat → Nat → Int), cJ L K r z' A' → cF ρ S z A z' A' → (∀ q, q ≠ r R 3 → z' q = z q) → (0 ≤ v ∧ v ≤ (cw_n K x : Int)) → Q v z' A') : wp_c4_writeSize L K z r A R a x y Q := by
  obtain ⟨-, -, ⟨f1, f2, f3, f4⟩, -, -⟩ := h4 R hO
  have fS : S (ρ (r R 3)) := by rw [f4]; exact hR
  refine ⟨hO, f1, wq_c0_copy h.1 f1 ha (by omega) (fun z1 A1 k1 hY1 hu1 _ hl1 hs1 => ?_)⟩
  have j1 := cJ_Y h f1 k1 hY1
  have F1 : cF ρ S z A z1 A1 := cF_Y h1 f1 fS hY1
  -- turned round
  have turn : ∀ (z2 A2 : Nat → Nat → Int) (v : Int), cJ L K r z2 A2 → cF ρ S z A z2 A2 → (∀ q, q ≠ r R 3 → z2 q = z q) → (y ≤ v ∧ v ≤ (cw_n K x : Int)) → wp_c4_writeSize_66 L K z2 r A2 x y v Q := by
    intro z2 A2 v j2 F2 o2 hv x6 e6
    intro P hP
    have key : ∀ (k : Nat) (A3 : Nat → Nat → Int) (p q : Int), q - p < (k : Int) → 0 ≤ p → p ≤ (cw_n K x : Int) → -1 ≤ q → q < (cw_n K x : Int) → cJ L K r z2 A3 → cF ρ S z A z2 A3 → P A3 p q := by
      intro k
      induction k with
      | zero =>
        intro A3 p q hk p0 p1 q0 q1 j3 F3
        refine hP A3 p q ⟨by omega, by omega, fun _ => ?_, fun c => by omega⟩
        exact hQ v z2 A3 j3 F3 o2 (by omega)
      | succ k ih =>
        intro A3 p q hk p0 p1 q0 q1 j3 F3
        refine hP A3 p q ⟨by omega, by omega, fun _ => hQ v z2 A3 j3 F3 o2 (by omega), fun c => ⟨hx, by omega, fun x7 e7 => ⟨by omega, by omega, (j3.2 x).2.2.1 hx _, fun A4 e4 => ⟨by omega, ?_, fun A5 e5 p' ep q' eq => ?_⟩⟩⟩⟩
        · rw [e7]; exact (j3.2 x).2.2.1 hx _
        · have j4 : cJ L K r z2 A4 := by
            rw [e4]
            exact cJ_st j3 hx (cd_dig j3.1 hx (by decide)) ⟨by omega, by omega, fun _ => (j3.2 x).2.2.1 hx _, by omega⟩
          have j5 : cJ L K r z2 A5 := by
            rw [e5]
            exact cJ_st j4 hx (cd_dig j4.1 hx (by decide)) ⟨by omega, by omega, fun _ => by rw [e7]; exact (j3.2 x).2.2.1 hx _, by omega⟩
          have F5 : cF ρ S z2 A3 z2 A5 := by
            rw [e5, e4]
            exact cF_trans (cF_st hxS) (cF_st hxS)
          exact ih A5 p' q' (by omega) (by omega) (by omega) (by omega) (by omega) j5 (cF_trans F3 F5)
    exact key (x6 - y + 1).toNat A2 y x6 (by omega) (by omega) (by omega) (by omega) (by omega) j2 F2
  intro P hP
  have key : ∀ (k : Nat) (z2 A2 : Nat → Nat → Int) (v i : Int), (k : Int) = (cw_n K x : Int) - i → y ≤ i → y ≤ v → v ≤ (cw_n K x : Int) → cJ L K r z2 A2 → cF ρ S z A z2 A2 → (∀ q, q ≠ r R 3 → z2 q = z q) → P z2 A2 v i := by
    intro k
    induction k with
    | zero =>
      intro z2 A2 v i hk i0 v0 v1 j2 F2 o2
      refine hP z2 A2 v i ⟨hx, by omega, by omega, fun _ => turn z2 A2 v j2 F2 o2 ⟨v0, v1⟩, fun c => by omega⟩
    | succ k ih =>
      intro z2 A2 v i hk i0 v0 v1 j2 F2 o2
      have kf := (j2.1.2 _ f1).1
      have step : wp_c4_writeSize_37 L K z2 r A2 R x y i P Q := by
        refine ⟨hO, f1, wq_c0_divideBySmall j2.1 f1 (by omega) (fun v3 z3 A3 k3 hY3 hv3 hl3 x9 e9 => ⟨hx, by omega, by omega, fun A4 e4 x4 ex4 x5 ex5 => ?_⟩)⟩
        have j3 := cJ_Y j2 f1 k3 hY3
        have j4 : cJ L K r z3 A4 := by
          rw [e4]
          exact cJ_st j3 hx (cd_dig j3.1 hx (by decide)) ⟨by omega, by omega, fun _ => by omega, by omega⟩
        refine ih z3 A4 x4 x5 (by omega) (by omega) (by omega) (by omega) j4 (cF_trans F2 (cF_trans (cF_Y h1 f1 fS hY3) ?_)) (fun q hq => by rw [hY3.1 q hq]; exact o2 q hq)
        rw [e4]
        exact cF_st hxS
      refine hP z2 A2 v i ⟨hx, by omega, by omega, fun c => by omega, fun c => ⟨by omega, by omega, fun _ => step, fun _ => ⟨hO, f1, by omega, fun _ => turn z2 A2 v j2 F2 o2 ⟨v0, v1⟩, fun _ => step⟩⟩⟩
  exact key ((cw_n K x : Int) - y).toNat z1 A1 y y (by omega) (by omega) (by omega) (by omega) j1 F1 (fun q hq => hY1.1 q hq)
theorem wq_c4_write {x : Nat} (h : cJ L K r z A) (h1 : cg_1 L K r w ρ) (h4 : cg_4 L K r w ρ) (hO : cw_O L K 4 R) (hR : S (ρ R)) (hx : cw_A L K 2 x) (xn : 2 ≤ cw_n K x ∧ cw_n K x < 2147483647) (hxS : S (ρ x)) {Q : Int → (Nat → Nat → Int) → (Nat → Nat → Int) → Prop} (hQ : ∀ (v : Int) (z' A' : Nat → Nat → Int), cJ L K r z' A' → cF ρ S z A z' A' → (∀ q, q ≠ r R 3 → z' q = z q) → (0 ≤ v ∧ v ≤ (cw_n K x : Int)) → Q v z' A') : wp_c4_write L K z r A R x Q := by
  obtain ⟨⟨t1, t2, t3, t4⟩, ⟨b1, b2, b3, b4⟩, ⟨f1, f2, f3, f4⟩, -, -⟩ := h4 R hO
  have bf : r R 1 ≠ r R 3 := cg_ne b3 f3 (by simp)
  have main : ∀ (A1 : Nat → Nat → Int) (y : Int), cJ L K r z A1 → cF ρ S z A z A1 → (0 ≤ y ∧ y ≤ 1) → wp_c4_write_19 L K z r A1 R x y Q := by
    intro A1 y j1 F1 hy
    have kt := (j1.1.2 _ t1).1
    refine ⟨hO, wq_c4_writeSize j1 h1 h4 hO hR t1 (by omega) hx xn.2 hxS (by omega) (fun v z2 A2 j2 F2 o2 hv => ⟨b1, ?_⟩)⟩
    refine wq_c0_isOne j2.1 b1 (fun i i0 _ => ⟨by omega, fun _ => hQ v z2 A2 j2 (cF_trans F1 F2) o2 hv, fun _ => ⟨hx, by omega, by omega, fun _ => hQ v z2 A2 j2 (cF_trans F1 F2) o2 hv, fun c => ⟨by omega, fun A3 e3 => ?_⟩⟩⟩)
    have j3 : cJ L K r z2 A3 := by
      rw [e3]
      exact cJ_st j2 hx (cd_dig j2.1 hx (by decide)) ⟨by omega, by omega, fun _ => by omega, by omega⟩
    have F3 : cF ρ S z2 A2 z2 A3 := by rw [e3]; exact cF_st hxS
    have kb := (j3.1.2 _ b1).1
    refine wq_c4_writeSize j3 h1 h4 hO hR b1 (by omega) hx xn.2 hxS (by omega) (fun v4 z4 A4 j4 F4 o4 hv4 => ?_)
    exact hQ v4 z4 A4 j4 (cF_trans (cF_trans (cF_trans F1 F2) F3) F4) (fun q hq => by rw [o4 q hq]; exact o2 q hq) hv4
  have st := (h.1.2 _ t1).2.1
  refine ⟨hO, t1, by omega, fun _ => main A 0 h (cF_refl _ _ _ _) (by omega), fun _ => ⟨hx, by omega, fun A1 e1 => ?_⟩⟩
  refine main A1 1 ?_ ?_ (by omega)
  · rw [e1]
    exact cJ_st h hx (cd_dig h.1 hx (by decide)) ⟨by omega, by omega, fun _ => by omega, by omega⟩
  · rw [e1]; exact cF_st hxS
end CR

-- 18.b16
/-- a digit; a character that is a word by itself -/
noncomputable def cl_d (c : Int) : Prop := 48 ≤ c ∧ c ≤ 57
noncomputable def cl_w (c : Int) : Prop := c = 40 ∨ c = 41 ∨ c = 44 ∨ c = 45 ∨ c = 47 ∨ c = 58 ∨ c = 63 ∨ c = 65 ∨ c = 66 ∨ c = 91 ∨ c = 93
/-- the word that comes at place p of a text of n characters: its kind, where it begins, what is behind it -/
noncomputable def cl_R (c : Nat → Int) (n p : Nat) (k : Int) (b q : Nat) : Prop :=
  p ≤ b ∧ b ≤ n ∧ (∀ j, p ≤ j → j < b → c j = 32) ∧ (b < n → ¬ c b = 32) ∧
  ((b = n ∧ k = 0 ∧ q = n) ∨ (b < n ∧ cl_d (c b) ∧ b < q ∧ q ≤ n ∧ (∀ j, b ≤ j → j < q → cl_d (c j)) ∧ (q < n → ¬ cl_d (c q)) ∧ ((q - b ≤ 4 ∧ k = 48) ∨ (4 < q - b ∧ k = 1))) ∨ (b < n ∧ ¬ cl_d (c b) ∧ q = b + 1 ∧ ((cl_w (c b) ∧ k = c b) ∨ (¬ cl_w (c b) ∧ k = 1))))
/-- there is but one -/
theorem cl_R_uniq {c : Nat → Int} {n p : Nat} {k k' : Int} {b b' q q' : Nat} (h : cl_R c n p k b q) (h' : cl_R c n p k' b' q') : k = k' ∧ b = b' ∧ q = q' := by
  obtain ⟨h1, h2, h3, h4, h5⟩ := h
  obtain ⟨g1, g2, g3, g4, g5⟩ := h'
  have eb : b = b' := by
    apply Classical.byContradiction
    intro hne
    rcases Nat.lt_or_gt_of_ne hne with hl | hl
    · exact h4 (by omega) (g3 b h1 hl)
    · exact g4 (by omega) (h3 b' g1 hl)
  subst eb
  rcases h5 with ⟨a1, a2, a3⟩ | ⟨a1, a2, a3, a4, a5, a6, a7⟩ | ⟨a1, a2, a3, a4⟩ <;> rcases g5 with ⟨b1, b2, b3⟩ | ⟨b1, b2, b3, b4, b5, b6, b7⟩ | ⟨b1, b2, b3, b4⟩
  · exact ⟨by omega, rfl, by omega⟩
  · omega
  · omega
  · omega
  · have eq : q = q' := by
      apply Classical.byContradiction
      intro hne
      rcases Nat.lt_or_gt_of_ne hne with hl | hl
      · exact a6 (by omega) (b5 q (by omega) hl)
      · exact b6 (by omega) (a5 q' (by omega) hl)
    exact ⟨by omega, rfl, eq⟩
  · exact absurd a2 b2
  · omega
  · exact absurd b2 a2
  · refine ⟨?_, rfl, by omega⟩
    rcases a4 with ⟨c1, c2⟩ | ⟨c1, c2⟩ <;> rcases b4 with ⟨d1, d2⟩ | ⟨d1, d2⟩
    · omega
    · exact absurd c1 d1
    · exact absurd d1 c1
    · omega
section CW
variable {L : List Nat} {K : Nat → cw_K} {r : Nat → Nat → Nat} {z A : Nat → Nat → Int} {W : Nat}
theorem wq_c10_isWord {y : Int} (hy : hz_rI y) {Q : Int → Prop} (h1 : cl_w y → Q 1) (h0 : ¬ cl_w y → Q 0) : wp_c10_isWord L K z r A y Q := by
  have k1 : cl_w y → wp_c10_isWord_100 L K z r A Q := h1
  refine ⟨hy, fun q => k1 (by unfold cl_w; omega), fun q1 => ⟨fun q => k1 (by unfold cl_w; omega), fun q2 => ⟨fun q => k1 (by unfold cl_w; omega), fun q3 => ⟨fun q => k1 (by unfold cl_w; omega), fun q4 => ⟨fun q => k1 (by unfold cl_w; omega), fun q5 => ⟨fun q => k1 (by unfold cl_w; omega), fun q6 => ⟨fun q => k1 (by unfold cl_w; omega), fun q7 => ⟨fun q => k1 (by unfold cl_w; omega), fun q8 => ⟨fun q => k1 (by unfold cl_w; omega), fun q9 => ⟨fun q => k1 (by unfold cl_w; omega), fun q10 => ⟨fun q => k1 (by unfold cl_w; omega), fun q11 => h0 (by unfold cl_w; omega)⟩⟩⟩⟩⟩⟩⟩⟩⟩⟩⟩
/-- what always holds of the text -/
noncomputable def cl_T (L : List Nat) (K : Nat → cw_K) (r : Nat → Nat → Nat) (z A : Nat → Nat → Int) (W : Nat) : Prop := cw_O L K 10 W ∧ cw_A L K 2 (r W 0) ∧ cw_n K (r W 0) = 4000 ∧ (0 ≤ z W 1 ∧ z W 1 ≤ 4000) ∧ (0 ≤ z W 4 ∧ z W 4 ≤ 9999) ∧ ∀ i, 0 ≤ A (r W 0) i ∧ A (r W 0) i < 65536
/-- a number's value: at most as many nines as it has digits, four at most -/
theorem wq_c10_takeNumber {p : Nat} (hT : cl_T L K r z A W) (hp : z W 3 = (p : Int)) (h5 : z W 5 = (p : Int)) (hpn : (p : Int) < z W 1) {Q : (Nat → Nat → Int) → Prop} (hQ : ∀ (z' : Nat → Nat → Int) (q : Nat), (∀ a, a ≠ W → z' a = z a) → z' W 1 = z W 1 → z' W 3 = z W 3 → z' W 5 = (q : Int) → (0 ≤ z' W 4 ∧ z' W 4 ≤ 9999) → p ≤ q → (q : Int) ≤ z W 1 → (∀ j, p ≤ j → j < q → cl_d (A (r W 0) j)) → ((q : Int) < z W 1 → ¬ cl_d (A (r W 0) q)) → ((q - p ≤ 4 ∧ z' W 2 = 48) ∨ (4 < q - p ∧ z' W 2 = 1)) → Q z') : wp_c10_takeNumber L K z r A W Q := by
  obtain ⟨t1, t2, t3, t4, t5, t6⟩ := hT
  refine ⟨t1, fun z1 e1 => ?_⟩
  have hnine : ∀ m : Nat, m ≤ 4 → (10 : Int) ^ m ≤ 10000 := by
    intro m hm
    have : m = 0 ∨ m = 1 ∨ m = 2 ∨ m = 3 ∨ m = 4 := by omega
    rcases this with rfl | rfl | rfl | rfl | rfl <;> decide
  have ex : ∀ (z2 : Nat → Nat → Int) (q : Nat), (∀ a, a ≠ W → z2 a = z a) → z2 W 1 = z W 1 → z2 W 3 = z W 3 → z2 W 5 = (q : Int) → (0 ≤ z2 W 4 ∧ z2 W 4 ≤ 9999) → p ≤ q → (q : Int) ≤ z W 1 → (∀ j, p ≤ j → j < q → cl_d (A (r W 0) j)) → ((q : Int) < z W 1 → ¬ cl_d (A (r W 0) q)) → wp_c10_takeNumber_94 L K z2 r A W Q := by
    intro z2 q o a1 a3 a5 a4 pq qn hd hn
    have fin : ∀ k : Int, ((q - p ≤ 4 ∧ k = 48) ∨ (4 < q - p ∧ k = 1)) → wp_c10_takeNumber_114 L K z2 r A k W Q := by
      intro k hk
      refine ⟨t1, fun z3 e3 => ?_⟩
      refine hQ z3 q (fun a ha => by rw [e3, cw_s_a ha]; exact o a ha) (by rw [e3, cw_s_k (by decide)]; exact a1) (by rw [e3, cw_s_k (by decide)]; exact a3) (by rw [e3, cw_s_k (by decide)]; exact a5) (by rw [e3, cw_s_k (by decide)]; exact a4) pq qn hd hn ?_
      rw [e3, cw_s_same]
      exact hk
    refine ⟨t1, by omega, fun c => fin 1 (by omega), fun c => fin 48 (by omega)⟩
  intro P hP
  have key : ∀ (k m : Nat) (z2 : Nat → Nat → Int), (m + p : Nat) + (k : Int) = z W 1 → (∀ a, a ≠ W → z2 a = z a) → z2 W 1 = z W 1 → z2 W 3 = z W 3 → z2 W 5 = ((p + m : Nat) : Int) → (0 ≤ z2 W 4 ∧ z2 W 4 < 10 ^ (min m 4)) → (∀ j, p ≤ j → j < p + m → cl_d (A (r W 0) j)) → P z2 := by
    intro k
    induction k with
    | zero =>
      intro m z2 hk o a1 a3 a5 a4 hd
      have h9 := hnine (min m 4) (by omega)
      refine hP z2 ⟨t1, by omega, by omega, fun _ => ?_, fun c => by omega⟩
      exact ex z2 (p + m) o a1 a3 a5 (by omega) (by omega) (by omega) hd (fun c => by omega)
    | succ k ih =>
      intro m z2 hk o a1 a3 a5 a4 hd
      have h9 := hnine (min m 4) (by omega)
      have e5 : (z2 W 5).toNat = p + m := by omega
      have hc := t6 (p + m)
      have stop : ¬ cl_d (A (r W 0) (p + m)) → wp_c10_takeNumber_94 L K z2 r A W Q := fun c => ex z2 (p + m) o a1 a3 a5 (by omega) (by omega) (by omega) hd (fun _ => c)
      refine hP z2 ⟨t1, by omega, by omega, fun c => by omega, fun c => ⟨t2, by omega, by rw [e5]; omega, fun c1 => stop (by rw [e5] at c1; unfold cl_d; omega), fun c1 => ⟨by omega, by rw [e5]; omega, fun c2 => stop (by rw [e5] at c2; unfold cl_d; omega), fun c2 => ⟨by omega, fun c3 => ⟨t1, fun z3 e3 => ?_⟩, fun c3 => ⟨by omega, fun x xr xe z3 e3 => ⟨t1, fun z4 e4 => ?_⟩⟩⟩⟩⟩⟩
      · rw [e5] at c1 c2
        refine ih (m + 1) z3 (by omega) (fun a ha => by rw [e3, cw_s_a ha]; exact o a ha) (by rw [e3, cw_s_k (by decide)]; exact a1) (by rw [e3, cw_s_k (by decide)]; exact a3) (by rw [e3, cw_s_same]; omega) ?_ (fun j j1 j2 => ?_)
        · rw [e3, cw_s_k (by decide), show min (m + 1) 4 = min m 4 by omega]; exact a4
        · by_cases hj : j = p + m
          · rw [hj]; unfold cl_d; omega
          · exact hd j j1 (by omega)
      · rw [e5] at c1 c2 xe
        have hm : m < 4 := by omega
        have p10 : (10 : Int) ^ (min (m + 1) 4) = 10 * 10 ^ (min m 4) := by
          rw [show min (m + 1) 4 = min m 4 + 1 by omega, Int.pow_succ, Int.mul_comm]
        have hx : x = 10 * z2 W 4 + A (r W 0) (p + m) - 48 := by omega
        refine ih (m + 1) z4 (by omega) (fun a ha => by rw [e4, cw_s_a ha, e3, cw_s_a ha]; exact o a ha) (by rw [e4, cw_s_k (by decide), e3, cw_s_k (by decide)]; exact a1) (by rw [e4, cw_s_k (by decide), e3, cw_s_k (by decide)]; exact a3) (by rw [e4, cw_s_same, e3, cw_s_k (by decide)]; omega) ?_ (fun j j1 j2 => ?_)
        · rw [e4, cw_s_k (by decide), e3, cw_s_same, p10, hx]
          omega
        · by_cases hj : j = p + m
          · rw [hj]; unfold cl_d; omega
          · exact hd j j1 (by omega)
  refine key (z W 1 - p).toNat 0 z1 (by omega) (fun a ha => by rw [e1, cw_s_a ha]) (by rw [e1, cw_s_k (by decide)]) (by rw [e1, cw_s_k (by decide)]) (by rw [e1, cw_s_k (by decide)]; exact h5) ?_ (fun j j1 j2 => by omega)
  rw [e1, cw_s_same]
  exact ⟨by omega, by decide⟩
theorem wq_c10_advance {p : Nat} (hT : cl_T L K r z A W) (h5 : z W 5 = (p : Int)) (hpn : (p : Int) ≤ z W 1) {Q : (Nat → Nat → Int) → Prop} (hQ : ∀ (z' : Nat → Nat → Int) (b q : Nat), (∀ a, a ≠ W → z' a = z a) → cl_T L K r z' A W → z' W 1 = z W 1 → z' W 3 = (b : Int) → z' W 5 = (q : Int) → cl_R (A (r W 0)) (z W 1).toNat p (z' W 2) b q → hz_rI (z' W 2) → Q z') : wp_c10_advance L K z r A W Q := by
  have hT0 := hT
  obtain ⟨t1, t2, t3, t4, t5, t6⟩ := hT
  have ex : ∀ (z1 : Nat → Nat → Int) (b : Nat), (∀ a, a ≠ W → z1 a = z a) → z1 W 1 = z W 1 → z1 W 5 = (b : Int) → z1 W 4 = z W 4 → p ≤ b → (b : Int) ≤ z W 1 → (∀ j, p ≤ j → j < b → A (r W 0) j = 32) → ((b : Int) < z W 1 → ¬ A (r W 0) b = 32) → wp_c10_advance_38 L K z1 r A W Q := by
    intro z1 b o a1 a5 a4 pb bn hs hb
    have hc := t6 b
    refine ⟨t1, fun z2 e2 => ?_⟩
    have b1 : z2 W 1 = z W 1 := by rw [e2, cw_s_k (by decide)]; exact a1
    have b5 : z2 W 5 = (b : Int) := by rw [e2, cw_s_k (by decide)]; exact a5
    have b3 : z2 W 3 = (b : Int) := by rw [e2, cw_s_same]; exact a5
    have b4 : z2 W 4 = z W 4 := by rw [e2, cw_s_k (by decide)]; exact a4
    have bo : ∀ a, a ≠ W → z2 a = z a := fun a ha => by rw [e2, cw_s_a ha]; exact o a ha
    have T2 : cl_T L K r z2 A W := ⟨t1, t2, t3, by rw [b1]; exact t4, by rw [b4]; exact t5, t6⟩
    refine ⟨by omega, by omega, fun c => ?_, fun c z3 e3 => ?_⟩
    · refine wq_c10_takeNumber T2 b3 b5 (by omega) (fun z3 q o3 d1 d3 d5 d4 bq qn hd hn hk => ?_)
      have T3 : cl_T L K r z3 A W := ⟨t1, t2, t3, by rw [d1, b1]; exact t4, d4, t6⟩
      rw [b1] at qn hn
      refine ⟨by omega, by omega, fun c2 => ?_, fun c2 => ⟨t2, by omega, ?_⟩⟩
      · have hdb : cl_d (A (r W 0) b) := hd b (Nat.le_refl b) (by omega)
        refine hQ z3 b q (fun a ha => by rw [o3 a ha]; exact bo a ha) T3 (by rw [d1, b1]) (by rw [d3, b3]) d5 ⟨pb, by omega, hs, fun c3 => hb (by omega), Or.inr (Or.inl ⟨by omega, hdb, by omega, by omega, hd, fun c3 => hn (by omega), hk⟩)⟩ (by omega)
      · have eq : q = b := by omega
        subst eq
        rw [show (z3 W 5).toNat = q by omega]
        have nd : ¬ cl_d (A (r W 0) q) := hn (by omega)
        have last : ∀ k : Int, ((cl_w (A (r W 0) q) ∧ k = A (r W 0) q) ∨ (¬ cl_w (A (r W 0) q) ∧ k = 1)) → wp_c10_advance_107 L K z3 r A W k W Q := by
          intro k hk9
          refine ⟨t1, fun z4 e4 => ⟨t1, fun z5 e5 => ?_⟩⟩
          have f1 : z5 W 1 = z W 1 := by rw [e5, cw_s_k (by decide), e4, cw_s_k (by decide), d1, b1]
          have f5 : z5 W 5 = ((q + 1 : Nat) : Int) := by rw [e5, cw_s_same, e4, cw_s_k (by decide), d5]; omega
          have f3 : z5 W 3 = (q : Int) := by rw [e5, cw_s_k (by decide), e4, cw_s_k (by decide), d3, b3]
          have f2 : z5 W 2 = k := by rw [e5, cw_s_k (by decide), e4, cw_s_same]
          have f4 : z5 W 4 = z3 W 4 := by rw [e5, cw_s_k (by decide), e4, cw_s_k (by decide)]
          refine hQ z5 q (q + 1) (fun a ha => by rw [e5, cw_s_a ha, e4, cw_s_a ha, o3 a ha]; exact bo a ha) ⟨t1, t2, t3, by rw [f1]; exact t4, by rw [f4]; exact d4, t6⟩ f1 f3 f5 ?_ (by rw [f2]; omega)
          rw [f2]
          exact ⟨pb, by omega, hs, fun c3 => hb (by omega), Or.inr (Or.inr ⟨by omega, nd, rfl, hk9⟩)⟩
        refine wq_c10_isWord (by omega) (fun hw => ⟨by decide, fun c3 => by omega, fun _ => ⟨by omega, last _ (Or.inl ⟨hw, rfl⟩)⟩⟩) (fun hw => ⟨by decide, fun _ => last 1 (Or.inr ⟨hw, rfl⟩), fun c3 => absurd rfl c3⟩)
    · have f1 : z3 W 1 = z W 1 := by rw [e3, cw_s_k (by decide), b1]
      have f2 : z3 W 2 = 0 := by rw [e3, cw_s_same]
      have bn2 : b = (z W 1).toNat := by omega
      refine hQ z3 b b (fun a ha => by rw [e3, cw_s_a ha]; exact bo a ha) ⟨t1, t2, t3, by rw [f1]; exact t4, by rw [e3, cw_s_k (by decide), b4]; exact t5, t6⟩ f1 (by rw [e3, cw_s_k (by decide), b3]) (by rw [e3, cw_s_k (by decide), b5]) ?_ (by rw [f2]; decide)
      rw [f2]
      exact ⟨pb, by omega, hs, fun c3 => by omega, Or.inl ⟨bn2, rfl, bn2⟩⟩
  intro P hP
  have key : ∀ (k b : Nat) (z1 : Nat → Nat → Int), (b : Int) + (k : Int) = z W 1 → p ≤ b → (∀ a, a ≠ W → z1 a = z a) → z1 W 1 = z W 1 → z1 W 5 = (b : Int) → z1 W 4 = z W 4 → (∀ j, p ≤ j → j < b → A (r W 0) j = 32) → P z1 := by
    intro k
    induction k with
    | zero =>
      intro b z1 hk pb o a1 a5 a4 hs
      refine hP z1 ⟨t1, by omega, by omega, fun _ => ?_, fun c => by omega⟩
      exact ex z1 b o a1 a5 a4 pb (by omega) hs (fun c => by omega)
    | succ k ih =>
      intro b z1 hk pb o a1 a5 a4 hs
      have e5 : (z1 W 5).toNat = b := by omega
      have hc := t6 b
      refine hP z1 ⟨t1, by omega, by omega, fun c => by omega, fun c => ⟨t2, by omega, by rw [e5]; omega, fun c1 => ?_, fun c1 z2 e2 => ?_⟩⟩
      · rw [e5] at c1
        exact ex z1 b o a1 a5 a4 pb (by omega) hs (fun _ => c1)
      · rw [e5] at c1
        refine ih (b + 1) z2 (by omega) (by omega) (fun a ha => by rw [e2, cw_s_a ha]; exact o a ha) (by rw [e2, cw_s_k (by decide)]; exact a1) (by rw [e2, cw_s_same, a5]; omega) (by rw [e2, cw_s_k (by decide)]; exact a4) (fun j j1 j2 => ?_)
        by_cases hj : j = b
        · rw [hj]; exact c1
        · exact hs j j1 (by omega)
  exact key (z W 1 - p).toNat p z (by omega) (Nat.le_refl p) (fun _ _ => rfl) rfl h5 rfl (fun j j1 j2 => by omega)
theorem wq_c10_goToStart (hT : cl_T L K r z A W) {Q : (Nat → Nat → Int) → Prop} (hQ : ∀ (z' : Nat → Nat → Int) (b q : Nat), (∀ a, a ≠ W → z' a = z a) → cl_T L K r z' A W → z' W 1 = z W 1 → z' W 3 = (b : Int) → z' W 5 = (q : Int) → cl_R (A (r W 0)) (z W 1).toNat 0 (z' W 2) b q → hz_rI (z' W 2) → Q z') : wp_c10_goToStart L K z r A W Q := by
  obtain ⟨t1, t2, t3, t4, t5, t6⟩ := hT
  refine ⟨t1, fun z1 e1 => ?_⟩
  have a1 : z1 W 1 = z W 1 := by rw [e1, cw_s_k (by decide)]
  have T1 : cl_T L K r z1 A W := ⟨t1, t2, t3, by rw [a1]; exact t4, by rw [e1, cw_s_k (by decide)]; exact t5, t6⟩
  refine wq_c10_advance (p := 0) T1 (by rw [e1, cw_s_same]; rfl) (by omega) (fun z2 b q o T2 d1 d3 d5 hR hk => ?_)
  rw [a1] at hR d1
  exact hQ z2 b q (fun a ha => by rw [o a ha, e1, cw_s_a ha]) T2 d1 d3 d5 hR hk
end CW

-- 18.b17
/-- the k-th character that is typed; whether what is typed goes behind a text of l characters -/
noncomputable def ct_c (y : Int) (k : Nat) : Int := (y / 2 ^ (8 * k)) % 256
noncomputable def ct_ok (y n l : Int) : Prop := 1 ≤ n ∧ n ≤ 8 ∧ l + n ≤ 4000 ∧ ∀ k : Nat, (k : Int) < n → 32 ≤ ct_c y k ∧ ct_c y k ≤ 126
theorem ct_c_mod (y : Int) {k : Nat} (hk : k < 8) : y % 18446744073709551616 / 2 ^ (8 * k) % 256 = ct_c y k := by
  unfold ct_c
  have hp : (0 : Int) < 2 ^ (8 * k) := Int.pow_pos (by decide)
  have e : (18446744073709551616 : Int) = 2 ^ (8 * k) * (256 * 2 ^ (56 - 8 * k)) := by
    rw [show (256 : Int) = 2 ^ 8 by decide, ← Int.pow_add, ← Int.pow_add, show 8 * k + (8 + (56 - 8 * k)) = 64 by omega]
    decide
  have h1 := Int.mul_ediv_add_emod y 18446744073709551616
  have h2 : y = y % 18446744073709551616 + 2 ^ (8 * k) * (256 * 2 ^ (56 - 8 * k) * (y / 18446744073709551616)) := by
    rw [← Int.mul_assoc, ← e]
    omega
  conv => rhs; rw [h2, Int.add_mul_ediv_left _ _ (by omega), Int.mul_assoc, Int.add_mul_emod_self_left]
section CW
variable {L : List Nat} {K : Nat → cw_K} {r : Nat → Nat → Nat} {z A : Nat → Nat → Int} {W : Nat}
theorem wq_c10_typedCharacter {y : Int} {k : Nat} (hk : k < 8) {Q : Int → Prop} (hQ : Q (ct_c y k)) : wp_c10_typedCharacter L K z r A y k Q := by
  intro x xr xe v vr ve u ue
  have xe := xe (by omega)
  rw [show (8 * (k : Int)).toNat = 8 * k by omega] at xe
  have : u = ct_c y k := by
    rw [← ct_c_mod y hk, ue]
    omega
  rw [this]
  exact hQ
theorem wq_c10_append {y n : Int} (hT : cl_T L K r z A W) (hn : hz_rI n) {Q : Int → (Nat → Nat → Int) → (Nat → Nat → Int) → Prop} (hQ1 : ct_ok y n (z W 1) → ∀ z' A' : Nat → Nat → Int, (∀ a, a ≠ W → z' a = z a) → (∀ a, a ≠ r W 0 → A' a = A a) → cl_T L K r z' A' W → z' W 1 = z W 1 + n → Q 1 z' A') (hQ0 : ¬ ct_ok y n (z W 1) → Q 0 z A) : wp_c10_append L K z r A W y n Q := by
  obtain ⟨t1, t2, t3, t4, t5, t6⟩ := hT
  have no : ¬ ct_ok y n (z W 1) → wp_c10_append_23 L K z r A Q := hQ0
  refine ⟨hn, fun c => no (fun h => by have := h.1; omega), fun c1 => ⟨hn, fun c => no (fun h => by have := h.2.1; omega), fun c2 => ⟨t1, by omega, fun c3 => ?_, fun c3 => no (fun h => by have := h.2.2.1; omega)⟩⟩⟩
  have cr : ∀ k : Nat, 0 ≤ ct_c y k ∧ ct_c y k < 256 := fun k => ⟨Int.emod_nonneg _ (by decide), Int.emod_lt_of_pos _ (by decide)⟩
  -- the second loop
  have two : ct_ok y n (z W 1) → ∀ x4 : Int, x4 = n - 1 → wp_c10_append_69 L K z r A W y x4 Q := by
    intro hok x4 e4 P hP
    have key : ∀ (k : Nat) (z1 A1 : Nat → Nat → Int) (x : Int), x = (k : Int) - 1 → (k : Int) ≤ n → (∀ a, a ≠ W → z1 a = z a) → (∀ a, a ≠ r W 0 → A1 a = A a) → (∀ i, 0 ≤ A1 (r W 0) i ∧ A1 (r W 0) i < 65536) → z1 W 1 = z W 1 + (n - (k : Int)) → z1 W 4 = z W 4 → P z1 A1 x := by
      intro k
      induction k with
      | zero =>
        intro z1 A1 x ex kn o oA hr a1 a4
        refine hP z1 A1 x ⟨by omega, fun _ => ?_, fun c => by omega⟩
        exact hQ1 hok z1 A1 o oA ⟨t1, t2, t3, by omega, by rw [a4]; exact t5, hr⟩ (by omega)
      | succ k ih =>
        intro z1 A1 x ex kn o oA hr a1 a4
        have exk : x = (k : Int) := by omega
        subst exk
        refine hP z1 A1 k ⟨by omega, fun c => by omega, fun _ => ⟨t1, wq_c10_typedCharacter (by omega) (fun x9 e9 => ⟨t2, by omega, ?_, fun A2 e2 z2 ez x5 e5 => ?_⟩)⟩⟩
        · have := cr k; omega
        · have ck := cr k
          refine ih z2 A2 x5 (by omega) (by omega) (fun a ha => by rw [ez, cw_s_a ha]; exact o a ha) (fun a ha => by rw [e2, hz_s_a ha]; exact oA a ha) (fun i => ?_) (by rw [ez, cw_s_same]; omega) (by rw [ez, cw_s_k (by decide)]; exact a4)
          rw [e2]
          by_cases hi : i = (z1 W 1).toNat
          · rw [hi, hz_s_same]; omega
          · rw [hz_s_i hi]; exact hr i
    exact key n.toNat z A x4 (by omega) (by omega) (fun _ _ => rfl) (fun _ _ => rfl) t6 (by omega) rfl
  intro P hP
  have key : ∀ (k j : Nat) (x : Int), j + (k : Int) = n → x = (j : Int) → (∀ i : Nat, i < j → 32 ≤ ct_c y i ∧ ct_c y i ≤ 126) → P x := by
    intro k
    induction k with
    | zero =>
      intro j x hk ex hc
      refine hP x ⟨by omega, hn, fun _ => ?_, fun c => by omega⟩
      exact two ⟨by omega, by omega, by omega, fun i hi => hc i (by omega)⟩
    | succ k ih =>
      intro j x hk ex hc
      subst ex
      have cj := cr j
      have bad : (ct_c y j < 32 ∨ 126 < ct_c y j) → wp_c10_append_56 L K z r A Q := fun h => hQ0 (fun hok => by have := hok.2.2.2 j (by omega); omega)
      refine hP j ⟨by omega, hn, fun c => by omega, fun _ => wq_c10_typedCharacter (by omega) ⟨by omega, fun c => bad (by omega), fun c => ⟨by omega, fun c2 x1 e1 => ?_, fun c2 => bad (by omega)⟩⟩⟩
      refine ih (j + 1) x1 (by omega) (by omega) (fun i hi => ?_)
      by_cases hij : i = j
      · rw [hij]; omega
      · exact hc i (by omega)
  exact key n.toNat 0 0 (by omega) rfl (fun i hi => by omega)
end CW

-- 18.b18
section CY
variable {L : List Nat} {K : Nat → cw_K} {r : Nat → Nat → Nat} {z A : Nat → Nat → Int} {w : Nat → Nat × Nat} {ρ : Nat → Nat} {S : Nat → Prop}
theorem wq_c11_gcd {a b : Int} (ha : -9223372036854775808 < a ∧ a < 9223372036854775808) (hb : -9223372036854775808 < b ∧ b < 9223372036854775808) {Q : Int → Prop} (hQ : ∀ x : Int, 0 ≤ x → x < 9223372036854775808 → Q x) : wp_c11_gcd L K z r A a b Q := by
  refine ⟨by omega, by omega, fun x ex => ⟨by omega, by omega, fun y ey => ?_⟩⟩
  intro P hP
  have key : ∀ (k n : Nat) (x y i : Int), n + k = 200 → i = (n : Int) → (0 ≤ x ∧ x < 9223372036854775808) → (0 ≤ y ∧ y < 9223372036854775808) → P x y i := by
    intro k
    induction k with
    | zero =>
      intro n x y i hk ei hx hy
      exact hP x y i ⟨by omega, fun _ => hQ x hx.1 hx.2, fun c => by omega⟩
    | succ k ih =>
      intro n x y i hk ei hx hy
      refine hP x y i ⟨by omega, fun c => by omega, fun _ => ⟨by omega, fun _ => hQ x hx.1 hx.2, fun c => ⟨c, by omega, by omega, fun t et j ej => ?_⟩⟩⟩
      refine ih (n + 1) y t j (by omega) (by omega) hy ?_
      rw [et, Int.tmod_eq_emod_of_nonneg hx.1]
      have h1 := Int.emod_nonneg x (show y ≠ 0 by omega)
      have h2 := Int.emod_lt_of_pos x (show 0 < y by omega)
      omega
  exact key 200 0 x y 0 (by omega) rfl (by omega) (by omega)
theorem wq_c11_quotient {a b : Int} (ha : hz_rL a) (hb : 0 ≤ b ∧ b < 9223372036854775808) {Q : Int → Prop} (hQ : ∀ x : Int, (0 ≤ a → 0 ≤ x ∧ x ≤ a) → (a ≤ 0 → a ≤ x ∧ x ≤ 0) → (0 < b → x = a.tdiv b) → (b = 0 → x = 0) → Q x) : wp_c11_quotient L K z r A a b Q := by
  refine ⟨by omega, fun c => ⟨c, ha, by omega, ?_⟩, fun c => hQ 0 (by omega) (by omega) (by omega) (fun _ => rfl)⟩
  refine hQ _ (fun h => ?_) (fun h => ?_) (fun _ => rfl) (fun h => absurd h c)
  · rw [Int.tdiv_eq_ediv_of_nonneg h]
    exact ⟨Int.ediv_nonneg h hb.1, Int.ediv_le_self _ h⟩
  · have e : a.tdiv b = - ((-a) / b) := by
      rw [show a = -(-a) by omega, Int.neg_tdiv, Int.tdiv_eq_ediv_of_nonneg (by omega), show - - -a = -a by omega]
    have h1 := Int.ediv_nonneg (show 0 ≤ -a by omega) hb.1
    have h2 := Int.ediv_le_self b (show 0 ≤ -a by omega)
    omega
theorem wq_c11_lcm {a b M : Int} (ha : 0 ≤ a ∧ a < 9223372036854775808) (hb : 0 ≤ b ∧ b < 9223372036854775808) (hab : a * b ≤ M) (hM : M < 9223372036854775808) {Q : Int → Prop} (hQ : ∀ x : Int, 0 ≤ x → x ≤ M → Q x) : wp_c11_lcm L K z r A a b Q := by
  refine wq_c11_gcd (by omega) (by omega) (fun g g0 g1 => wq_c11_quotient (by omega) ⟨g0, g1⟩ (fun q q1 _ _ _ x xr xe => ?_))
  have q1 := q1 ha.1
  have h1 : q * b ≤ a * b := Int.mul_le_mul_of_nonneg_right q1.2 hb.1
  have h0 : 0 ≤ q * b := Int.mul_nonneg q1.1 hb.1
  generalize q * b = t at *
  exact hQ x (by omega) (by omega)
theorem wq_c7_setOf {d : Int} (hd : hz_rI d) {Q : Int → Prop} (hQ : 0 ≤ d → Q (d / 512)) (h0 : 0 ≤ d) : wp_c7_setOf L K z r A d Q := by
  refine ⟨hd, ?_⟩
  rw [Int.tdiv_eq_ediv_of_nonneg h0]
  exact hQ h0
theorem wq_c7_moveOf {d : Int} (hd : hz_rI d) {Q : Int → Prop} (hQ : 0 ≤ d → Q (d % 512)) (h0 : 0 ≤ d) : wp_c7_moveOf L K z r A d Q := by
  refine ⟨hd, ?_⟩
  rw [Int.tmod_eq_emod_of_nonneg h0]
  exact hQ h0
theorem wq_c7_deed {s m : Int} (hs : 0 ≤ s ∧ s < 100000) (hm : 0 ≤ m ∧ m < 100000) {Q : Int → Prop} (hQ : Q (s * 512 + m)) : wp_c7_deed L K z r A s m Q := by
  intro x xr xe
  have : x = s * 512 + m := by omega
  rw [this]
  exact hQ
/-- a side of a finished game -/
noncomputable def cs_F (L : List Nat) (K : Nat → cw_K) (r : Nat → Nat → Nat) (z A : Nat → Nat → Int) (s : Nat) : Prop :=
  cw_O L K 7 s ∧ (0 ≤ z s 0 ∧ z s 0 ≤ 10) ∧ (1 ≤ z s 5 ∧ z s 5 ≤ 20) ∧ ∀ i : Nat, (i : Int) < z s 0 →
    (1 ≤ A (r s 2) i ∧ A (r s 2) i ≤ 4) ∧ (1 ≤ A (r s 6) i ∧ A (r s 6) i + A (r s 2) i ≤ z s 5) ∧ (0 ≤ A (r s 7) i ∧ A (r s 7) i < A (r s 6) i) ∧ (A (r s 4) i = -1 ∨ (0 ≤ A (r s 4) i ∧ A (r s 4) i / 512 < (i : Int) ∧ A (r s 4) i % 512 < 4))
theorem cs_F_keep (h7 : cg_7 L K r w ρ) {s : Nat} {z' A' : Nat → Nat → Int} (h : cs_F L K r z A s) (hF : cF ρ S z A z' A') (hs : ¬ S (ρ s)) : cs_F L K r z' A' s := by
  obtain ⟨h1, h2, h3, h4⟩ := h
  obtain ⟨g1, g2, g3, g4, g6, g7⟩ := h7 s h1
  have e : ∀ k, ρ (r s k) = ρ s → A' (r s k) = A (r s k) := fun k ek => (hF (r s k) (by rw [ek]; exact hs)).2
  unfold cs_F
  rw [(hF s hs).1, e 2 g2.2.2.2, e 4 g4.2.2.2, e 6 g6.2.2.2, e 7 g7.2.2.2]
  exact ⟨h1, h2, h3, h4⟩
/-- a way: chances of at most 1, in numbers below 10000 -/
noncomputable def cy_W (L : List Nat) (K : Nat → cw_K) (r : Nat → Nat → Nat) (A : Nat → Nat → Int) (y : Nat) : Prop := cw_O L K 9 y ∧ ∀ i : Nat, i < 40 → 0 ≤ A (r y 0) i ∧ A (r y 0) i ≤ A (r y 1) i ∧ A (r y 1) i ≤ 9999
theorem cy_W_keep (h9 : cg_9 L K r w ρ) {y : Nat} {z' A' : Nat → Nat → Int} (h : cy_W L K r A y) (hF : cF ρ S z A z' A') (hs : ¬ S (ρ y)) : cy_W L K r A' y := by
  obtain ⟨g0, g1, g2⟩ := h9 y h.1
  unfold cy_W
  rw [(hF (r y 0) (by rw [g0.2.2.2]; exact hs)).2, (hF (r y 1) (by rw [g1.2.2.2]; exact hs)).2]
  exact h
/-- a number's digits are no array of another owner -/
theorem cg_dig (hd : ∀ a, cw_O L K 0 a → w (r a 0) = (a, 0)) {a k t : Nat} (hk : w (r a k) = (a, k)) (ha : cw_O L K t a) (ht : ¬ t = 0) : ∀ b, cw_O L K 0 b → r b 0 ≠ r a k := by
  intro b hb
  exact cg_ne (hd b hb) hk (fun e => cw_O_ne hb ha (fun q => ht q.symm) e.1)
theorem wq_c9_restart {y : Nat} (h : cJ L K r z A) (hd : ∀ a, cw_O L K 0 a → w (r a 0) = (a, 0)) (h9 : cg_9 L K r w ρ) (hO : cw_O L K 9 y) (hy : S (ρ y)) {Q : (Nat → Nat → Int) → Prop} (hQ : ∀ A' : Nat → Nat → Int, cJ L K r z A' → cF ρ S z A z A' → cy_W L K r A' y → Q A') : wp_c9_restart L K z r A y Q := by
  obtain ⟨⟨a1, a2, a3, a4⟩, ⟨b1, b2, b3, b4⟩, -⟩ := h9 y hO
  have d0 := cg_dig hd a3 hO (by decide)
  have d1 := cg_dig hd b3 hO (by decide)
  have ne : r y 0 ≠ r y 1 := cg_ne a3 b3 (by simp)
  intro P hP
  have key : ∀ (k n : Nat) (A1 : Nat → Nat → Int) (x : Int), n + k = 40 → x = (n : Int) → cJ L K r z A1 → cF ρ S z A z A1 → (∀ i, i < n → 0 ≤ A1 (r y 0) i ∧ A1 (r y 0) i ≤ A1 (r y 1) i ∧ A1 (r y 1) i ≤ 9999) → P A1 x := by
    intro k
    induction k with
    | zero =>
      intro n A1 x hk ex j1 F1 hc
      exact hP A1 x ⟨by omega, fun _ => hQ A1 j1 F1 ⟨hO, fun i hi => hc i (by omega)⟩, fun c => by omega⟩
    | succ k ih =>
      intro n A1 x hk ex j1 F1 hc
      subst ex
      have main : ∀ t : Int, (t = 0 ∨ t = 1) → wp_c9_restart_24 L K z r A1 y n t n (r y 0) P Q := by
        intro t ht
        refine ⟨a1, by omega, fun A2 e2 => ⟨hO, b1, by omega, fun A3 e3 x1 ex1 => ?_⟩⟩
        have j2 : cJ L K r z A2 := by rw [e2]; exact cJ_st j1 a1 d0 ⟨fun _ => by omega, by omega, by omega, by omega⟩
        have j3 : cJ L K r z A3 := by rw [e3]; exact cJ_st j2 b1 d1 ⟨fun _ => by omega, by omega, by omega, by omega⟩
        refine ih (n + 1) A3 x1 (by omega) (by omega) j3 (cF_trans F1 (by rw [e3, e2]; exact cF_trans (cF_st (by rw [a4]; exact hy)) (cF_st (by rw [b4]; exact hy)))) (fun i hi => ?_)
        have e0 : A3 (r y 0) = A2 (r y 0) := by rw [e3, hz_s_a ne]
        have e1 : A2 (r y 1) = A1 (r y 1) := by rw [e2, hz_s_a (Ne.symm ne)]
        by_cases hin : i = n
        · subst hin
          have s0 : A2 (r y 0) i = t := by rw [e2]; have := hz_s_same (A := A1) (r y 0) (i : Int) t; rwa [show ((i : Int)).toNat = i by omega] at this
          have s1 : A3 (r y 1) i = 1 := by rw [e3]; have := hz_s_same (A := A2) (r y 1) (i : Int) 1; rwa [show ((i : Int)).toNat = i by omega] at this
          rw [e0, s0, s1]
          omega
        · rw [e0, e3, hz_s_i (by omega), e2, hz_s_i (by omega), hz_s_i (by omega)]
          exact hc i (by omega)
      have em : ((n : Int)).tmod 4 = (n : Int) % 4 := Int.tmod_eq_emod_of_nonneg (by omega)
      refine hP A1 n ⟨by omega, fun c => by omega, fun _ => ⟨hO, by omega, by rw [em]; omega, fun _ => main 0 (by omega), fun _ => main 1 (by omega)⟩⟩
  exact key 40 0 A 0 (by omega) rfl h (cF_refl _ _ _ _) (fun i hi => by omega)
theorem wq_c9_putChance {y : Nat} {s m t b : Int} (h : cJ L K r z A) (hd : ∀ a, cw_O L K 0 a → w (r a 0) = (a, 0)) (h9 : cg_9 L K r w ρ) (hy : S (ρ y)) (hW : cy_W L K r A y) (hs : 0 ≤ s ∧ s < 10) (hm : 0 ≤ m ∧ m < 4) (ht : 0 ≤ t ∧ t ≤ b) (hb : b ≤ 9999) {Q : (Nat → Nat → Int) → Prop} (hQ : ∀ A' : Nat → Nat → Int, cJ L K r z A' → cF ρ S z A z A' → cy_W L K r A' y → Q A') : wp_c9_putChance L K z r A y s m t b Q := by
  obtain ⟨hO, hc⟩ := hW
  obtain ⟨⟨a1, a2, a3, a4⟩, ⟨b1, b2, b3, b4⟩, -⟩ := h9 y hO
  have d0 := cg_dig hd a3 hO (by decide)
  have d1 := cg_dig hd b3 hO (by decide)
  have ne : r y 0 ≠ r y 1 := cg_ne a3 b3 (by simp)
  refine ⟨by omega, by omega, wq_c11_gcd (by omega) (by omega) (fun g g0 g1 => ⟨hO, by omega, wq_c11_quotient (by omega) ⟨g0, g1⟩ (fun q q1 _ q3 q4 x xr xe => ⟨a1, by omega, fun A1 e1 => ⟨by omega, wq_c11_quotient (by omega) ⟨g0, g1⟩ (fun p p1 _ p3 p4 v vr ve => ⟨b1, by omega, fun A2 e2 => ?_⟩)⟩⟩)⟩)⟩
  have q1 := q1 ht.1
  have p1 := p1 (by omega)
  have xq : x = q := by omega
  have vp : v = p := by omega
  subst xq vp
  have le : x ≤ v := by
    by_cases hg : g = 0
    · rw [q4 hg, p4 hg]; omega
    · rw [q3 (by omega), p3 (by omega), Int.tdiv_eq_ediv_of_nonneg ht.1, Int.tdiv_eq_ediv_of_nonneg (by omega)]
      exact Int.ediv_le_ediv (by omega) ht.2
  have j1 : cJ L K r z A1 := by rw [e1]; exact cJ_st h a1 d0 ⟨fun _ => xr, by omega, by omega, by omega⟩
  have j2 : cJ L K r z A2 := by rw [e2]; exact cJ_st j1 b1 d1 ⟨fun _ => vr, by omega, by omega, by omega⟩
  refine hQ A2 j2 (by rw [e2, e1]; exact cF_trans (cF_st (by rw [a4]; exact hy)) (cF_st (by rw [b4]; exact hy))) ⟨hO, fun i hi => ?_⟩
  have e0 : A2 (r y 0) = A1 (r y 0) := by rw [e2, hz_s_a ne]
  by_cases hin : i = (s * 4 + m).toNat
  · rw [e0, e2, hin, hz_s_same, e1, hz_s_same]
    omega
  · rw [e0, e2, hz_s_i hin, e1, hz_s_i hin, hz_s_i hin]
    exact hc i hi
end CY

-- 18.b19
section CY
variable {L : List Nat} {K : Nat → cw_K} {r : Nat → Nat → Nat} {z A : Nat → Nat → Int} {w : Nat → Nat × Nat} {ρ : Nat → Nat} {S : Nat → Prop} {y s : Nat}
theorem wq_c9_bottomOf {i : Int} (h7 : cg_7 L K r w ρ) (h9 : cg_9 L K r w ρ) (hF : cs_F L K r z A s) (hW : cy_W L K r A y) (hi : 0 ≤ i ∧ i < z s 0) {Q : Int → Prop} (hQ : ∀ x : Int, 0 ≤ x → x ≤ 10000000000000000 → Q x) : wp_c9_bottomOf L K z r A y s i Q := by
  obtain ⟨hs, f2, f3, f4⟩ := hF
  obtain ⟨-, ⟨m1, m2, m3, m4⟩, -, -, -, -⟩ := h7 s hs
  obtain ⟨hO, hc⟩ := hW
  obtain ⟨-, ⟨b1, b2, b3, b4⟩, -⟩ := h9 y hO
  have fi := (f4 i.toNat (by omega)).1
  intro P hP
  have key : ∀ (k n : Nat) (x j : Int), n + (k : Int) = A (r s 2) i.toNat → j = (n : Int) → 0 ≤ x → x ≤ 10000 ^ n → P x j := by
    intro k
    induction k with
    | zero =>
      intro n x j hk ej x0 x1
      have : (10000 : Int) ^ n ≤ 10000000000000000 := by
        have : n = 1 ∨ n = 2 ∨ n = 3 ∨ n = 4 := by omega
        rcases this with rfl | rfl | rfl | rfl <;> decide
      exact hP x j ⟨hs, m1, by omega, by omega, by omega, fun _ => hQ x x0 (by omega), fun c => by omega⟩
    | succ k ih =>
      intro n x j hk ej x0 x1
      have hb := hc (i * 4 + j).toNat (by omega)
      have p4 : (10000 : Int) ^ (n + 1) ≤ 10000000000000000 := by
        have : n = 0 ∨ n = 1 ∨ n = 2 ∨ n = 3 := by omega
        rcases this with rfl | rfl | rfl | rfl <;> decide
      have pn : (10000 : Int) ^ (n + 1) = 10000 ^ n * 10000 := Int.pow_succ ..
      refine hP x j ⟨hs, m1, by omega, by omega, by omega, fun c => by omega, fun _ => ⟨hO, b1, by omega, by omega, wq_c11_lcm (M := 10000 ^ (n + 1)) (by omega) (by omega) ?_ (by omega) (fun v v0 v1 j1 ej1 => ih (n + 1) v j1 (by omega) (by omega) v0 v1)⟩⟩
      rw [pn]
      exact Int.mul_le_mul x1 (by omega) (by omega) (by omega)
  exact key (A (r s 2) i.toNat).toNat 0 1 0 (by omega) rfl (by decide) (by decide)
theorem wq_c9_topOf {i m b : Int} (h9 : cg_9 L K r w ρ) (hW : cy_W L K r A y) (hi : 0 ≤ i ∧ i < 10) (hm : 0 ≤ m ∧ m < 4) (hb : 0 ≤ b ∧ b ≤ 10000000000000000) {Q : Int → Prop} (hQ : ∀ x : Int, 0 ≤ x → x ≤ b → Q x) : wp_c9_topOf L K z r A y i m b Q := by
  obtain ⟨hO, hc⟩ := hW
  obtain ⟨⟨a1, a2, a3, a4⟩, ⟨b1, b2, b3, b4⟩, -⟩ := h9 y hO
  intro x xr xe
  have ex : x = i * 4 + m := by omega
  have hx := hc x.toNat (by omega)
  refine ⟨hO, b1, by omega, by omega, wq_c11_quotient (by omega) (by omega) (fun q q1 _ q3 q4 => ⟨a1, by omega, by omega, fun v vr ve => ?_⟩)⟩
  have q1 := q1 hb.1
  have t0 : 0 ≤ q * A (r y 0) x.toNat := Int.mul_nonneg q1.1 hx.1
  have t1 : q * A (r y 0) x.toNat ≤ b := by
    by_cases h0 : A (r y 1) x.toNat = 0
    · rw [q4 h0]; omega
    · have e := q3 (by omega)
      rw [Int.tdiv_eq_ediv_of_nonneg hb.1] at e
      have h1 : q * A (r y 0) x.toNat ≤ q * A (r y 1) x.toNat := Int.mul_le_mul_of_nonneg_left hx.2.1 q1.1
      have h2 : q * A (r y 1) x.toNat ≤ b := by rw [e]; exact Int.ediv_mul_le _ (by omega)
      omega
  generalize q * A (r y 0) x.toNat = t at *
  exact hQ v (by omega) (by omega)
theorem wq_c9_isGood (h7 : cg_7 L K r w ρ) (h9 : cg_9 L K r w ρ) (hF : cs_F L K r z A s) (hW : cy_W L K r A y) {Q : Int → Prop} (hQ : ∀ x : Int, (x = 0 ∨ x = 1) → Q x) : wp_c9_isGood L K z r A y s Q := by
  have hF0 := hF
  have hW0 := hW
  obtain ⟨hs, f2, f3, f4⟩ := hF
  obtain ⟨-, ⟨m1, m2, m3, m4⟩, -, -, -, -⟩ := h7 s hs
  obtain ⟨hO, hc⟩ := hW
  intro P hP
  have key : ∀ (k n : Nat) (x : Int), n + (k : Int) = z s 0 → x = (n : Int) → P x := by
    intro k
    induction k with
    | zero =>
      intro n x hk ex
      exact hP x ⟨hs, by omega, by omega, fun _ => hQ 1 (by omega), fun c => by omega⟩
    | succ k ih =>
      intro n x hk ex
      have fn := (f4 n (by omega)).1
      have e9 : x.toNat = n := by omega
      refine hP x ⟨hs, by omega, by omega, fun c => by omega, fun _ => ⟨hO, wq_c9_bottomOf h7 h9 hF0 hW0 (by omega) (fun b b0 b1 => ?_)⟩⟩
      intro P2 hP2
      have inner : ∀ (k2 j : Nat) (v i : Int), j + (k2 : Int) = A (r s 2) n → i = (j : Int) → 0 ≤ v → v ≤ 10000000000000000 * j → P2 v i := by
        intro k2
        induction k2 with
        | zero =>
          intro j v i hj ei v0 v1
          refine hP2 v i ⟨hs, m1, by omega, by omega, by rw [e9]; omega, fun _ => ⟨by omega, by omega, fun _ x1 e1 => ih (n + 1) x1 (by omega) (by omega), fun _ => hQ 0 (by omega)⟩, fun c => ?_⟩
          rw [e9] at c; omega
        | succ k2 ih2 =>
          intro j v i hj ei v0 v1
          refine hP2 v i ⟨hs, m1, by omega, by omega, by rw [e9]; omega, fun c => ?_, fun _ => ⟨hO, wq_c9_topOf h9 hW0 (by omega) (by omega) ⟨b0, b1⟩ (fun t t0 t1 v1' ev1 i1 ei1 => ih2 (j + 1) v1' i1 (by omega) (by omega) (by omega) (by omega))⟩⟩
          rw [e9] at c; omega
      exact inner (A (r s 2) n).toNat 0 0 0 (by omega) rfl (by omega) (by omega)
  exact key (z s 0).toNat 0 0 (by omega) rfl
/-- a deed of a finished side, or none -/
noncomputable def cs_d (z : Nat → Nat → Int) (s : Nat) (d : Int) : Prop := d = -1 ∨ (0 ≤ d ∧ d / 512 < z s 0 ∧ d % 512 < 4)
noncomputable def cy_t (r : Nat → Nat → Nat) (A : Nat → Nat → Int) (y : Nat) : Prop := ∀ i : Nat, i < 10 → -1 ≤ A (r y 2) i ∧ A (r y 2) i < 4
theorem wq_c9_markTaken {d : Int} (h : cJ L K r z A) (hdg : ∀ a, cw_O L K 0 a → w (r a 0) = (a, 0)) (h7 : cg_7 L K r w ρ) (h9 : cg_9 L K r w ρ) (hO : cw_O L K 9 y) (hF : cs_F L K r z A s) (hy : S (ρ y)) (hd : cs_d z s d) {Q : (Nat → Nat → Int) → Prop} (hQ : ∀ A' : Nat → Nat → Int, cJ L K r z A' → cF ρ S z A z A' → (∀ a, a ≠ r y 2 → A' a = A a) → cy_t r A' y → Q A') : wp_c9_markTaken L K z r A y s d Q := by
  obtain ⟨hs, f2, f3, f4⟩ := hF
  obtain ⟨-, -, -, ⟨e1, e2, e3, e4⟩, -, -⟩ := h7 s hs
  obtain ⟨-, -, ⟨c1, c2, c3, c4⟩⟩ := h9 y hO
  have dd := cg_dig hdg c3 hO (by decide)
  have nsy : s ≠ y := cw_O_ne hs hO (by decide)
  have ne : r s 4 ≠ r y 2 := cg_ne e3 c3 (by simp)
  have two : ∀ A1 : Nat → Nat → Int, cJ L K r z A1 → cF ρ S z A z A1 → (∀ a, a ≠ r y 2 → A1 a = A a) → cy_t r A1 y → wp_c9_markTaken_26 L K z r A1 y s d 0 Q := by
    intro A1 j1 F1 o1 t1 P hP
    have key : ∀ (k n : Nat) (A2 : Nat → Nat → Int) (x i : Int), n + k = 10 → i = (n : Int) → cJ L K r z A2 → cF ρ S z A z A2 → (∀ a, a ≠ r y 2 → A2 a = A a) → cy_t r A2 y → cs_d z s x → P A2 x i := by
      intro k
      induction k with
      | zero =>
        intro n A2 x i hk ei j2 F2 o2 t2 hx
        exact hP A2 x i ⟨by omega, fun _ => hQ A2 j2 F2 o2 t2, fun c => by omega⟩
      | succ k ih =>
        intro n A2 x i hk ei j2 F2 o2 t2 hx
        have xr : hz_rI x := by unfold cs_d at hx; omega
        refine hP A2 x i ⟨by omega, fun c => by omega, fun _ => ⟨xr, fun _ => hQ A2 j2 F2 o2 t2, fun c => ⟨hO, ?_⟩⟩⟩
        have hx : 0 ≤ x ∧ x / 512 < z s 0 ∧ x % 512 < 4 := by rcases hx with q | q; exact absurd q c; exact q
        refine wq_c7_setOf xr (fun _ => wq_c7_moveOf xr (fun _ => ⟨c1, by omega, fun A3 e3' => ⟨hs, wq_c7_setOf xr (fun _ => ⟨e1, by omega, fun x1 ex1 i1 ei1 => ?_⟩) hx.1⟩⟩) hx.1) hx.1
        have j3 : cJ L K r z A3 := by rw [e3']; exact cJ_st j2 c1 dd ⟨fun _ => by omega, by omega, by omega, by omega⟩
        have o3 : ∀ a, a ≠ r y 2 → A3 a = A a := fun a ha => by rw [e3', hz_s_a ha]; exact o2 a ha
        refine ih (n + 1) A3 x1 i1 (by omega) (by omega) j3 (cF_trans F2 (by rw [e3']; exact cF_st (by rw [c4]; exact hy))) o3 (fun i hi => ?_) ?_
        · rw [e3']
          by_cases hin : i = (x / 512).toNat
          · rw [hin, hz_s_same]; omega
          · rw [hz_s_i hin]; exact t2 i hi
        · rw [ex1, o3 _ ne]
          have := (f4 (x / 512).toNat (by omega)).2.2.2
          unfold cs_d
          omega
    exact key 10 0 A1 d 0 (by omega) rfl j1 F1 o1 t1 hd
  intro P hP
  have key : ∀ (k n : Nat) (A1 : Nat → Nat → Int) (i : Int), n + k = 10 → i = (n : Int) → cJ L K r z A1 → cF ρ S z A z A1 → (∀ a, a ≠ r y 2 → A1 a = A a) → (∀ i, i < n → A1 (r y 2) i = -1) → P A1 i := by
    intro k
    induction k with
    | zero =>
      intro n A1 i hk ei j1 F1 o1 t1
      exact hP A1 i ⟨by omega, fun _ => two A1 j1 F1 o1 (fun i hi => by rw [t1 i (by omega)]; omega), fun c => by omega⟩
    | succ k ih =>
      intro n A1 i hk ei j1 F1 o1 t1
      subst ei
      refine hP A1 n ⟨by omega, fun c => by omega, fun _ => ⟨hO, c1, by omega, fun A2 e2' x ex => ?_⟩⟩
      refine ih (n + 1) A2 x (by omega) (by omega) (by rw [e2']; exact cJ_st j1 c1 dd ⟨fun _ => by omega, by omega, by omega, by omega⟩) (cF_trans F1 (by rw [e2']; exact cF_st (by rw [c4]; exact hy))) (fun a ha => by rw [e2', hz_s_a ha]; exact o1 a ha) (fun i hi => ?_)
      rw [e2']
      by_cases hin : i = n
      · have := hz_s_same (A := A1) (r y 2) (n : Int) (-1)
        rw [show ((n : Int)).toNat = n by omega] at this
        rw [hin]; exact this
      · rw [hz_s_i (by omega)]; exact t1 i (by omega)
  exact key 10 0 A 0 (by omega) rfl h (cF_refl _ _ _ _) (fun _ _ => rfl) (fun i hi => by omega)
theorem wq_c9_spreadLine {d : Int} {b : Nat} (h : cJ L K r z A) (hdg : ∀ a, cw_O L K 0 a → w (r a 0) = (a, 0)) (h1 : cg_1 L K r w ρ) (h7 : cg_7 L K r w ρ) (h9 : cg_9 L K r w ρ) (hF : cs_F L K r z A s) (hW : cy_W L K r A y) (hy : S (ρ y)) (hs' : ¬ S (ρ s)) (hb : cw_O L K 0 b) (hbS : S (ρ b)) (hby : ρ b ≠ ρ y) (hd : cs_d z s d) {Q : (Nat → Nat → Int) → (Nat → Nat → Int) → Prop} (hQ : ∀ z' A' : Nat → Nat → Int, cJ L K r z' A' → cF ρ S z A z' A' → cy_W L K r A' y → (∀ a, a ≠ b → z' a = z a) → z' b 1 ≤ 12 → Q z' A') : wp_c9_spreadLine L K z r A y s d b Q := by
  have hO := hW.1
  have hs := hF.1
  obtain ⟨⟨a1, a2, a3, a4⟩, ⟨b1, b2, b3, b4⟩, ⟨c1, c2, c3, c4⟩⟩ := h9 y hO
  have yb : ∀ k, ρ (r y k) = ρ y → r y k ≠ r b 0 := fun k hk e => hby (by rw [← h1.1 b hb, ← e, hk])
  refine ⟨hO, wq_c9_markTaken h hdg h7 h9 hO hF hy hd (fun A1 j1 F1 o1 t1 => ⟨hb, ?_⟩)⟩
  have W1 : cy_W L K r A1 y := ⟨hO, fun i hi => by rw [o1 _ (cg_ne a3 c3 (by simp)), o1 _ (cg_ne b3 c3 (by simp))]; exact hW.2 i hi⟩
  refine wq_c0_put j1.1 hb (by omega) (fun z2 A2 k2 hY2 _ hl2 => ?_)
  have j2 := cJ_Y j1 hb k2 hY2
  have F2 : cF ρ S z A z2 A2 := cF_trans F1 (cF_Y h1 hb hbS hY2)
  have W2 : cy_W L K r A2 y := ⟨hO, fun i hi => by rw [hY2.2 _ (yb 0 a4), hY2.2 _ (yb 1 b4)]; exact W1.2 i hi⟩
  have t2 : cy_t r A2 y := fun i hi => by rw [hY2.2 _ (yb 2 c4)]; exact t1 i hi
  intro P hP
  have key : ∀ (k n : Nat) (z3 A3 : Nat → Nat → Int) (x : Int), n + (k : Int) = z s 0 → x = (n : Int) → cJ L K r z3 A3 → cF ρ S z A z3 A3 → cy_W L K r A3 y → cy_t r A3 y → (∀ a, a ≠ b → z3 a = z a) → z3 b 1 ≤ 2 + (n : Int) → P z3 A3 x := by
    intro k
    induction k with
    | zero =>
      intro n z3 A3 x hk ex j3 F3 W3 t3 o3 l3
      have e0 : z3 s 0 = z s 0 := by rw [(F3 s hs').1]
      have := hF.2.1
      exact hP z3 A3 x ⟨hs, by omega, by omega, fun _ => hQ z3 A3 j3 F3 W3 o3 (by omega), fun c => by omega⟩
    | succ k ih =>
      intro n z3 A3 x hk ex j3 F3 W3 t3 o3 l3
      have F3' := cs_F_keep h7 hF F3 hs'
      have e0 : z3 s 0 = z s 0 := by rw [(F3 s hs').1]
      have hle := hF.2.1
      have tn := t3 x.toNat (by omega)
      have sc : ∀ f : Int, wp_c9_spreadLine_64 L K z3 r A3 y s b x f b P Q := by
        intro f
        refine ⟨hb, wq_c0_scale j3.1 hb (fun z4 A4 k4 hY4 hl4 _ x4 ex4 => ?_)⟩
        refine ih (n + 1) z4 A4 x4 (by omega) (by omega) (cJ_Y j3 hb k4 hY4) (cF_trans F3 (cF_Y h1 hb hbS hY4)) ⟨hO, fun i hi => by rw [hY4.2 _ (yb 0 a4), hY4.2 _ (yb 1 b4)]; exact W3.2 i hi⟩ (fun i hi => by rw [hY4.2 _ (yb 2 c4)]; exact t3 i hi) (fun a ha => by rw [hY4.1 a ha]; exact o3 a ha) (by omega)
      refine hP z3 A3 x ⟨hs, by omega, by omega, fun c => by omega, fun _ => ⟨hO, wq_c9_bottomOf h7 h9 F3' W3 (by omega) (fun v v0 v1 => ⟨c1, by omega, by omega, fun c => ⟨by omega, wq_c9_topOf h9 W3 (by omega) (by omega) ⟨v0, v1⟩ (fun t _ _ => sc t)⟩, fun _ => sc v⟩)⟩⟩
  exact key (z s 0).toNat 0 z2 A2 0 (by have := hF.2.1; omega) rfl j2 F2 W2 t2 (fun a ha => hY2.1 a ha) (by omega)
/-- all shares of a told mix are short -/
noncomputable def cm_T (K : Nat → cw_K) (r : Nat → Nat → Nat) (z : Nat → Nat → Int) (m : Nat) : Prop := ∀ i, i < 20 → z (cw_g K (r m 0) i) 1 ≤ 12
theorem wq_c9_spread {m : Nat} (h : cJ L K r z A) (hdg : ∀ a, cw_O L K 0 a → w (r a 0) = (a, 0)) (h1 : cg_1 L K r w ρ) (h3 : cg_3 L K r w ρ) (h7 : cg_7 L K r w ρ) (h9 : cg_9 L K r w ρ) (hF : cs_F L K r z A s) (hW : cy_W L K r A y) (hy : S (ρ y)) (hs' : ¬ S (ρ s)) (hm : cw_O L K 3 m) (hmS : S (ρ m)) (hmy : ρ m ≠ ρ y) (hT : cm_T K r z m) {Q : (Nat → Nat → Int) → (Nat → Nat → Int) → Prop} (hQ : ∀ z' A' : Nat → Nat → Int, cJ L K r z' A' → cF ρ S z A z' A' → cy_W L K r A' y → cm_T K r z' m → Q z' A') : wp_c9_spread L K z r A y s m Q := by
  have hO := hW.1
  have hs := hF.1
  obtain ⟨⟨g1, g2, g3, g4⟩, -⟩ := h3 m hm
  obtain ⟨-, ⟨m1, m2, m3, m4⟩, -, -, ⟨l1, l2, l3, l4⟩, -⟩ := h7 s hs
  -- one line
  have one : ∀ (z1 A1 : Nat → Nat → Int) (d : Int) (i : Nat) (Q1 : (Nat → Nat → Int) → (Nat → Nat → Int) → Prop), i < 20 → cs_d z s d → cJ L K r z1 A1 → cF ρ S z A z1 A1 → cy_W L K r A1 y → cm_T K r z1 m → (∀ z2 A2 : Nat → Nat → Int, cJ L K r z2 A2 → cF ρ S z A z2 A2 → cy_W L K r A2 y → cm_T K r z2 m → Q1 z2 A2) → wp_c9_spreadLine L K z1 r A1 y s d (cw_g K (r m 0) i) Q1 := by
    intro z1 A1 d i Q1 hi hd j1 F1 W1 T1 k1
    obtain ⟨p1, p2, p3, p4⟩ := g4 i hi
    have F1' := cs_F_keep h7 hF F1 hs'
    have d1 : cs_d z1 s d := by unfold cs_d at hd ⊢; rw [(F1 s hs').1]; exact hd
    refine wq_c9_spreadLine j1 hdg h1 h7 h9 F1' W1 hy hs' p1 (by rw [p4]; exact hmS) (by rw [p4]; exact hmy) d1 (fun z2 A2 j2 F2 W2 o2 l2 => k1 z2 A2 j2 (cF_trans F1 F2) W2 (fun q hq => ?_))
    by_cases hqi : q = i
    · rw [hqi]; exact l2
    · obtain ⟨q1, q2, q3, q4⟩ := g4 q hq
      rw [o2 _ (cg_ne q3 p3 (by simp; exact hqi))]
      exact T1 q hq
  refine ⟨hm, g1, by omega, hO, one z A (-1) 0 _ (by omega) (Or.inl rfl) h (cF_refl _ _ _ _) hW hT (fun z1 A1 j1 F1 W1 T1 => ?_)⟩
  intro P hP
  have f2 := hF.2.1
  have f3 := hF.2.2.1
  have key : ∀ (k n : Nat) (z2 A2 : Nat → Nat → Int) (x : Int), n + (k : Int) = z s 0 → x = (n : Int) → cJ L K r z2 A2 → cF ρ S z A z2 A2 → cy_W L K r A2 y → cm_T K r z2 m → P z2 A2 x := by
    intro k
    induction k with
    | zero =>
      intro n z2 A2 x hk ex j2 F2 W2 T2
      have e0 : z2 s 0 = z s 0 := by rw [(F2 s hs').1]
      exact hP z2 A2 x ⟨hs, by omega, by omega, fun _ => hQ z2 A2 j2 F2 W2 T2, fun c => by omega⟩
    | succ k ih =>
      intro n z2 A2 x hk ex j2 F2 W2 T2
      have e0 : z2 s 0 = z s 0 := by rw [(F2 s hs').1]
      refine hP z2 A2 x ⟨hs, by omega, by omega, fun c => by omega, fun _ => ?_⟩
      intro P2 hP2
      have fn := hF.2.2.2 n (by omega)
      have e9 : x.toNat = n := by omega
      have inner : ∀ (k2 j : Nat) (z3 A3 : Nat → Nat → Int) (i : Int), j + (k2 : Int) = A (r s 2) n → i = (j : Int) → cJ L K r z3 A3 → cF ρ S z A z3 A3 → cy_W L K r A3 y → cm_T K r z3 m → P2 z3 A3 i := by
        intro k2
        induction k2 with
        | zero =>
          intro j z3 A3 i hj ei j3 F3 W3 T3
          have em : A3 (r s 2) = A (r s 2) := (F3 _ (by rw [m4]; exact hs')).2
          refine hP2 z3 A3 i ⟨hs, m1, by omega, by omega, by rw [em, e9]; omega, fun _ x1 e1 => ih (n + 1) z3 A3 x1 (by omega) (by omega) j3 F3 W3 T3, fun c => ?_⟩
          rw [em, e9] at c; omega
        | succ k2 ih2 =>
          intro j z3 A3 i hj ei j3 F3 W3 T3
          have em : A3 (r s 2) = A (r s 2) := (F3 _ (by rw [m4]; exact hs')).2
          have el : A3 (r s 6) = A (r s 6) := (F3 _ (by rw [l4]; exact hs')).2
          refine hP2 z3 A3 i ⟨hs, m1, by omega, by omega, by rw [em, e9]; omega, fun c => ?_, fun _ => wq_c7_deed (by omega) (by omega) ⟨hm, l1, by omega, g1, by rw [el, e9]; omega, hO, ?_⟩⟩
          · rw [em, e9] at c; omega
          · refine one z3 A3 _ _ _ (by rw [el, e9]; omega) (Or.inr (by omega)) j3 F3 W3 T3 (fun z4 A4 j4 F4 W4 T4 i1 ei1 => ih2 (j + 1) z4 A4 i1 (by omega) (by omega) j4 F4 W4 T4)
      exact inner (A (r s 2) n).toNat 0 z2 A2 0 (by omega) rfl j2 F2 W2 T2
  exact key (z s 0).toNat 0 z1 A1 0 (by omega) rfl j1 F1 W1 T1
end CY

-- 18.b20
/-- sums -/
noncomputable def cS (f : Nat → Int) : Nat → Int
  | 0 => 0
  | n + 1 => cS f n + f n
theorem cS_congr {f g : Nat → Int} {n : Nat} (h : ∀ i, i < n → f i = g i) : cS f n = cS g n := by
  induction n with
  | zero => rfl
  | succ n ih => simp only [cS]; rw [ih (fun i hi => h i (by omega)), h n (by omega)]
theorem cS_nn {f : Nat → Int} {n : Nat} (h : ∀ i, i < n → 0 ≤ f i) : 0 ≤ cS f n := by
  induction n with
  | zero => exact Int.le_refl 0
  | succ n ih => simp only [cS]; have := ih (fun i hi => h i (by omega)); have := h n (by omega); omega
theorem cS_le {f : Nat → Int} {n i : Nat} (h : ∀ i, i < n → 0 ≤ f i) (hi : i < n) : f i ≤ cS f n := by
  induction n with
  | zero => omega
  | succ n ih =>
    simp only [cS]
    have h1 := cS_nn (f := f) (n := n) (fun i hi => h i (by omega))
    have h2 := h n (by omega)
    by_cases e : i = n
    · subst e; omega
    · have := ih (fun i hi => h i (by omega)) (by omega); omega
section CP
variable {L : List Nat} {K : Nat → cw_K} {r : Nat → Nat → Nat} {z A : Nat → Nat → Int} {w : Nat → Nat × Nat} {ρ : Nat → Nat} {S : Nat → Prop} {P g : Nat}
/-- the sum of the sizes of all weights of a game -/
noncomputable def cg_W (K : Nat → cw_K) (r : Nat → Nat → Nat) (A : Nat → Nat → Int) (g : Nat) : Int := cS (fun i => cS (fun j => ((A (cw_g K (r g 3) i) j).natAbs : Int)) 20) 20
/-- a finished game -/
noncomputable def cg_F (L : List Nat) (K : Nat → cw_K) (r : Nat → Nat → Nat) (z A : Nat → Nat → Int) (g : Nat) : Prop :=
  cw_O L K 2 g ∧ cs_F L K r z A (cw_g K (r g 1) 0) ∧ cs_F L K r z A (cw_g K (r g 1) 1) ∧ cg_W K r A g ≤ 400000000000 ∧ (0 ≤ z g 2 ∧ z g 2 < 1000000000)
theorem cg_W_le {i j : Nat} (hi : i < 20) (hj : j < 20) : ((A (cw_g K (r g 3) i) j).natAbs : Int) ≤ cg_W K r A g := by
  have h1 : ((A (cw_g K (r g 3) i) j).natAbs : Int) ≤ cS (fun j => ((A (cw_g K (r g 3) i) j).natAbs : Int)) 20 := cS_le (f := fun j => ((A (cw_g K (r g 3) i) j).natAbs : Int)) (fun _ _ => by omega) hj
  have h2 : cS (fun j => ((A (cw_g K (r g 3) i) j).natAbs : Int)) 20 ≤ cg_W K r A g := cS_le (f := fun i => cS (fun j => ((A (cw_g K (r g 3) i) j).natAbs : Int)) 20) (fun i _ => cS_nn (fun _ _ => by omega)) hi
  omega
theorem cg_F_keep (h2 : cg_2 L K r w ρ) (h7 : cg_7 L K r w ρ) {z' A' : Nat → Nat → Int} (h : cg_F L K r z A g) (hF : cF ρ S z A z' A') (hg : ¬ S (ρ g)) : cg_F L K r z' A' g := by
  obtain ⟨f1, f2, f3, f4, f5⟩ := h
  obtain ⟨-, ⟨s1, s2, s3⟩, ⟨w1, w2, w3⟩⟩ := h2 g f1
  refine ⟨f1, cs_F_keep h7 f2 hF (by rw [(s3 0 (by omega)).2.2]; exact hg), cs_F_keep h7 f3 hF (by rw [(s3 1 (by omega)).2.2]; exact hg), ?_, by rw [(hF g hg).1]; exact f5⟩
  have : cg_W K r A' g = cg_W K r A g := cS_congr (fun i hi => cS_congr (fun j _ => by
    show ((A' (cw_g K (r g 3) i) j).natAbs : Int) = ((A (cw_g K (r g 3) i) j).natAbs : Int)
    rw [(hF (cw_g K (r g 3) i) (by rw [(w3 i hi).2.2.2]; exact hg)).2]))
  rw [this]
  exact f4
/-- the side of a player -/
theorem cg_F_side (h : cg_F L K r z A g) {q : Int} (hq : q = 0 ∨ q = 1) : cs_F L K r z A (cw_g K (r g 1) q.toNat) := by
  rcases hq with rfl | rfl
  · exact h.2.1
  · exact h.2.2.1
theorem wq_c2_weight {q i j : Int} (h2 : cg_2 L K r w ρ) (hF : cg_F L K r z A g) (hq : q = 0 ∨ q = 1) (hi : 0 ≤ i ∧ i < 20) (hj : 0 ≤ j ∧ j < 20) {Q : Int → Prop} (hQ : ∀ x : Int, (x.natAbs : Int) ≤ 400000000000 → Q x) : wp_c2_weight L K z r A g q i j Q := by
  obtain ⟨f1, f2, f3, f4, f5⟩ := hF
  obtain ⟨-, -, ⟨w1, w2, w3⟩⟩ := h2 g f1
  refine ⟨by omega, fun c => ⟨f1, w1, by omega, (w3 j.toNat (by omega)).1, by rw [(w3 j.toNat (by omega)).2.1]; omega, ?_⟩, fun c => ⟨f1, w1, by omega, (w3 i.toNat (by omega)).1, by rw [(w3 i.toNat (by omega)).2.1]; omega, ?_⟩⟩
  · exact hQ _ (by have := cg_W_le (K := K) (r := r) (A := A) (g := g) (i := j.toNat) (j := i.toNat) (by omega) (by omega); omega)
  · exact hQ _ (by have := cg_W_le (K := K) (r := r) (A := A) (g := g) (i := i.toNat) (j := j.toNat) (by omega) (by omega); omega)
/-- all numbers of a row of numbers are at most M -/
noncomputable def cm_M (K : Nat → cw_K) (r : Nat → Nat → Nat) (z A : Nat → Nat → Int) (x : Nat) (M : Int) : Prop := ∀ i, i < 20 → cb_u r z A (cw_g K x i) ≤ M
theorem wq_c6_gather {m : Nat} {q M : Int} (h : cJ L K r z A) (h1 : cg_1 L K r w ρ) (h2 : cg_2 L K r w ρ) (h3 : cg_3 L K r w ρ) (h6 : cg_6 L K r w ρ) (h7 : cg_7 L K r w ρ) (hP : cw_O L K 6 P) (hPS : S (ρ P)) (hF : cg_F L K r z A g) (hg : ¬ S (ρ g)) (hq : q = 0 ∨ q = 1) (hm : cw_O L K 3 m) (hmS : ¬ S (ρ m)) (hM : cm_M K r z A (r m 0) M) (hM0 : 0 ≤ M) (hfit : 10000000000000 * M < 4294967296 ^ 32) {Q : (Nat → Nat → Int) → (Nat → Nat → Int) → Prop} (hQ : ∀ z' A' : Nat → Nat → Int, cJ L K r z' A' → cF ρ S z A z' A' → (∀ i : Nat, (i : Int) < z (cw_g K (r g 1) q.toNat) 5 → cb_u r z' A' (cw_g K (r P 2) i) ≤ 8000000000000 * M) → Q z' A') : wp_c6_gather L K z r A P g q m Q := by
  obtain ⟨-, -, ⟨l1, l2, l3, l4⟩, ⟨f1, f2, f3, f4⟩, ⟨t1, t2, t3, t4⟩⟩ := h6 P hP
  obtain ⟨⟨p1, p2, p3, p4⟩, -⟩ := h3 m hm
  have hg0 := hF.1
  obtain ⟨-, ⟨s1, s2, s3⟩, -⟩ := h2 g hg0
  have sq := s3 q.toNat (by omega)
  have so := s3 (1 - q).toNat (by omega)
  have Fq := cg_F_side hF hq
  have Fo := cg_F_side (q := 1 - q) hF (by omega)
  have nS : ∀ i, i < 2 → ¬ S (ρ (cw_g K (r g 1) i)) := fun i hi => by rw [(s3 i hi).2.2]; exact hg
  refine ⟨hg0, s1, by omega, so.1, fun x4 e4 => ?_⟩
  intro PP hPP
  -- one line of the player's
  have key : ∀ (k n : Nat) (z1 A1 : Nat → Nat → Int) (x : Int), n + (k : Int) = z (cw_g K (r g 1) q.toNat) 5 → x = (n : Int) → cJ L K r z1 A1 → cF ρ S z A z1 A1 → (∀ i, i < n → cb_u r z1 A1 (cw_g K (r P 2) i) ≤ 8000000000000 * M) → PP z1 A1 x := by
    intro k
    induction k with
    | zero =>
      intro n z1 A1 x hk ex j1 F1 b1
      have e0 : z1 (cw_g K (r g 1) q.toNat) 5 = z (cw_g K (r g 1) q.toNat) 5 := by rw [(F1 _ (nS _ (by omega))).1]
      have := Fq.2.2.1
      exact hPP z1 A1 x ⟨hg0, s1, by omega, sq.1, by omega, by omega, fun _ => hQ z1 A1 j1 F1 (fun i hi => b1 i (by omega)), fun c => by omega⟩
    | succ k ih =>
      intro n z1 A1 x hk ex j1 F1 b1
      subst ex
      have e0 : z1 (cw_g K (r g 1) q.toNat) 5 = z (cw_g K (r g 1) q.toNat) 5 := by rw [(F1 _ (nS _ (by omega))).1]
      have ln := Fq.2.2.1
      have lo := Fo.2.2.1
      obtain ⟨g1, g2, g3, g4⟩ := l4 n (by omega)
      have gS : S (ρ (cw_g K (r P 2) n)) := by rw [g4]; exact hPS
      have e9 : ((n : Int)).toNat = n := by omega
      have gr : r P 2 ≠ P := Ne.symm (cw_OG_ne hP l1)
      have ng_t : r P 4 ≠ cw_g K (r P 2) n := cg_ne t3 g3 (by simp; intro e; exact absurd e.symm gr)
      have ng_f : r P 3 ≠ cw_g K (r P 2) n := cg_ne f3 g3 (by simp; intro e; exact absurd e.symm gr)
      have ntf : r P 3 ≠ r P 4 := cg_ne f3 t3 (by simp)
      refine hPP z1 A1 n ⟨hg0, s1, by omega, sq.1, by omega, by omega, fun c => by omega, fun _ => ⟨hP, l1, by omega, by rw [e9]; exact g1, ?_⟩⟩
      rw [e9]
      refine wq_c0_put j1.1 g1 (by omega) (fun z2 A2 k2 hY2 hv2 _ => ?_)
      have j2 := cJ_Y j1 g1 k2 hY2
      have F2 : cF ρ S z A z2 A2 := cF_trans F1 (cF_Y h1 g1 gS hY2)
      have u2 : cb_u r z2 A2 (cw_g K (r P 2) n) = 0 := by
        have e := (cb_v0 (k2.2 _ g1) k2.1 g1).mpr hv2
        exact (cb_u0 (k2.2 _ g1) k2.1 g1).mp e
      have oth : ∀ (z3 A3 z4 A4 : Nat → Nat → Int) (c : Nat), cb_S L K r A3 → cw_O L K 0 c → cb_Y r c z3 A3 z4 A4 → (∀ i, i < n → cw_g K (r P 2) i ≠ c) → (∀ i, i < n → cb_u r z3 A3 (cw_g K (r P 2) i) ≤ 8000000000000 * M) → ∀ i, i < n → cb_u r z4 A4 (cw_g K (r P 2) i) ≤ 8000000000000 * M := by
        intro z3 A3 z4 A4 c hS3 hc hY hne hb i hi
        rw [(cb_k_other hS3 hc (l4 i (by omega)).1 (hne i hi) hY).2.1]
        exact hb i hi
      have b2 := oth z1 A1 z2 A2 _ j1.1.1 g1 hY2 (fun i hi => cg_ne (l4 i (by omega)).2.2.1 g3 (by simp; omega)) b1
      intro P2 hP2
      have inner : ∀ (k2 j : Nat) (z3 A3 : Nat → Nat → Int) (i : Int), j + (k2 : Int) = x4 → i = (j : Int) → cJ L K r z3 A3 → cF ρ S z A z3 A3 → (∀ i, i < n → cb_u r z3 A3 (cw_g K (r P 2) i) ≤ 8000000000000 * M) → cb_u r z3 A3 (cw_g K (r P 2) n) ≤ 400000000000 * M * (j : Int) → P2 z3 A3 i := by
        intro k2
        induction k2 with
        | zero =>
          intro j z3 A3 i hj ei j3 F3 b3 u3
          refine hP2 z3 A3 i ⟨by omega, by omega, fun _ x1 e1 => ih (n + 1) z3 A3 x1 (by omega) (by omega) j3 F3 (fun i hi => ?_), fun c => by omega⟩
          by_cases hin : i = n
          · rw [hin]
            have : 400000000000 * M * (j : Int) ≤ 400000000000 * M * 20 := Int.mul_le_mul_of_nonneg_left (by omega) (by omega)
            omega
          · exact b3 i (by omega)
        | succ k2 ih2 =>
          intro j z3 A3 i hj ei j3 F3 b3 u3
          subst ei
          have e8 : ((j : Int)).toNat = j := by omega
          obtain ⟨a1, a2, a3, a4⟩ := p4 j (by omega)
          have jm : 400000000000 * M * ((j + 1 : Nat) : Int) = 400000000000 * M * (j : Int) + 400000000000 * M := by rw [Int.natCast_add, Int.mul_add]; simp
          have jb : 400000000000 * M * (j : Int) ≤ 400000000000 * M * 19 := Int.mul_le_mul_of_nonneg_left (by omega) (by omega)
          refine hP2 z3 A3 j ⟨by omega, by omega, fun c => by omega, fun _ => ⟨hg0, wq_c2_weight h2 (cg_F_keep h2 h7 hF F3 hg) hq (by omega) (by omega) (fun v hv => ⟨by omega, fun _ x1 e1 => ih2 (j + 1) z3 A3 x1 (by omega) (by omega) j3 F3 b3 (by omega), fun hv0 => ⟨hP, f1, ?_⟩⟩)⟩⟩
          refine wq_c0_put j3.1 f1 (by omega) (fun z4 A4 k4 hY4 hv4 hl4 => ⟨hm, p1, by omega, t1, ?_⟩)
          rw [e8]
          have j4 := cJ_Y j3 f1 k4 hY4
          have F4 : cF ρ S z A z4 A4 := cF_trans F3 (cF_Y h1 f1 (by rw [f4]; exact hPS) hY4)
          have um : cb_u r z4 A4 (cw_g K (r m 0) j) ≤ M := by
            rw [(cF_big h1 F4 a1 (by rw [a4]; exact hmS)).1]
            exact hM j (by omega)
          have rm : ∀ c, ρ c = ρ P → cw_g K (r m 0) j ≠ c := fun c hc e => hmS (by rw [← a4, e, hc]; exact hPS)
          have ka := (j4.1.2 _ a1).1
          have kf := (j4.1.2 _ f1).1
          refine wq_c0_putProduct j4.1 t1 a1 f1 (rm _ t4) ntf (by omega) (fun z5 A5 k5 hY5 hv5 _ => ⟨l1, by omega, by rw [e9]; exact g1, ?_⟩)
          rw [e9]
          have j5 := cJ_Y j4 t1 k5 hY5
          have F5 : cF ρ S z A z5 A5 := cF_trans F4 (cF_Y h1 t1 (by rw [t4]; exact hPS) hY5)
          have ut : cb_u r z5 A5 (r P 4) ≤ 400000000000 * M := by
            have e1 : cb_u r z5 A5 (r P 4) = ((cb_v r z5 A5 (r P 4)).natAbs : Int) := by
              have := cb_u_nn r z5 A5 (r P 4)
              unfold cb_v
              split <;> omega
            have e2 : ((cb_v r z4 A4 (cw_g K (r m 0) j)).natAbs : Int) = cb_u r z4 A4 (cw_g K (r m 0) j) := by
              have := cb_u_nn r z4 A4 (cw_g K (r m 0) j)
              unfold cb_v
              split <;> omega
            rw [e1, hv5, Int.natAbs_mul, Int.natCast_mul, e2, hv4, Int.mul_comm 400000000000 M]
            exact Int.mul_le_mul um hv (by omega) hM0
          have ug : cb_u r z5 A5 (cw_g K (r P 2) n) = cb_u r z3 A3 (cw_g K (r P 2) n) := by
            rw [(cb_k_other j4.1.1 t1 g1 (Ne.symm ng_t) hY5).2.1, (cb_k_other j3.1.1 f1 g1 (Ne.symm ng_f) hY4).2.1]
          refine wq_c0_plus j5.1 g1 t1 ng_t ?_ (fun z6 A6 k6 hY6 hv6 x1 e1 => ?_)
          · rw [g2, ug]
            omega
          · have un6 : cb_u r z6 A6 (cw_g K (r P 2) n) ≤ cb_u r z5 A5 (cw_g K (r P 2) n) + cb_u r z5 A5 (r P 4) := by
              have a6 := cb_u_nn r z6 A6 (cw_g K (r P 2) n)
              have a5 := cb_u_nn r z5 A5 (cw_g K (r P 2) n)
              have at5 := cb_u_nn r z5 A5 (r P 4)
              unfold cb_v at hv6
              split at hv6 <;> split at hv6 <;> split at hv6 <;> omega
            have np : ∀ i, i < n → cw_g K (r P 2) i ≠ cw_g K (r P 2) n := fun i hi => cg_ne (l4 i (by omega)).2.2.1 g3 (by simp; omega)
            have npt : ∀ i, i < n → cw_g K (r P 2) i ≠ r P 4 := fun i hi => cg_ne (l4 i (by omega)).2.2.1 t3 (by simp; intro e; exact absurd e gr)
            have npf : ∀ i, i < n → cw_g K (r P 2) i ≠ r P 3 := fun i hi => cg_ne (l4 i (by omega)).2.2.1 f3 (by simp; intro e; exact absurd e gr)
            refine ih2 (j + 1) z6 A6 x1 (by omega) (by omega) (cJ_Y j5 g1 k6 hY6) (cF_trans F5 (cF_Y h1 g1 gS hY6)) (oth z5 A5 z6 A6 _ j5.1.1 g1 hY6 np (oth z4 A4 z5 A5 _ j4.1.1 t1 hY5 npt (oth z3 A3 z4 A4 _ j3.1.1 f1 hY4 npf b3))) (by omega)
      exact inner x4.toNat 0 z2 A2 0 (by omega) rfl j2 F2 b2 (by rw [u2]; simp)
  exact key (z (cw_g K (r g 1) q.toNat) 5).toNat 0 z A 0 (by have := Fq.2.2.1; omega) rfl h (cF_refl _ _ _ _) (fun i hi => by omega)
end CP

-- 18.b21
section CP
variable {L : List Nat} {K : Nat → cw_K} {r : Nat → Nat → Nat} {z A : Nat → Nat → Int} {w : Nat → Nat × Nat} {ρ : Nat → Nat} {S : Nat → Prop} {P g : Nat}
theorem wq_c6_bestMove {s : Nat} {i d : Int} (h : cJ L K r z A) (h6 : cg_6 L K r w ρ) (h7 : cg_7 L K r w ρ) (hP : cw_O L K 6 P) (hF : cs_F L K r z A s) (hi : 0 ≤ i ∧ i < z s 0) (hd : hz_rI d) {Q : Int → Prop} (hQ : ∀ x : Int, 0 ≤ x → x < A (r s 2) i.toNat → Q x) : wp_c6_bestMove L K z r A P s i d Q := by
  obtain ⟨hs, f2, f3, f4⟩ := hF
  obtain ⟨-, ⟨m1, m2, m3, m4⟩, -, -, ⟨l1, l2, l3, l4⟩, -⟩ := h7 s hs
  obtain ⟨-, -, ⟨a1, a2, a3, a4⟩, -, -⟩ := h6 P hP
  have fi := f4 i.toNat (by omega)
  intro PP hPP
  have key : ∀ (k : Nat) (b j : Int), j + (k : Int) = A (r s 2) i.toNat → 1 ≤ j → 0 ≤ b → b < A (r s 2) i.toNat → PP b j := by
    intro k
    induction k with
    | zero =>
      intro b j hk j1 b0 b1
      exact hPP b j ⟨hs, m1, by omega, by omega, by omega, fun _ => hQ b b0 b1, fun c => by omega⟩
    | succ k ih =>
      intro b j hk j1 b0 b1
      refine hPP b j ⟨hs, m1, by omega, by omega, by omega, fun c => by omega, fun _ => ⟨hP, l1, by omega, a1, by omega, by omega, by omega, (a4 _ (by omega)).1, wq_c0_order h.1 (a4 _ (by omega)).1 (a4 _ (by omega)).1 (fun x x1 _ _ _ => ⟨by omega, hd, fun _ j2 e2 => ih b j2 (by omega) (by omega) b0 b1, fun _ j2 e2 => ih j j2 (by omega) (by omega) (by omega) (by omega)⟩)⟩⟩
  exact key (A (r s 2) i.toNat - 1).toNat 0 1 (by omega) (by omega) (by omega) (by omega)
theorem wq_c6_dropUnreached {s : Nat} (h : cJ L K r z A) (hdg : ∀ a, cw_O L K 0 a → w (r a 0) = (a, 0)) (h6 : cg_6 L K r w ρ) (h7 : cg_7 L K r w ρ) (hP : cw_O L K 6 P) (hPS : S (ρ P)) (hF : cs_F L K r z A s) (hs' : ¬ S (ρ s)) {Q : (Nat → Nat → Int) → Prop} (hQ : ∀ A' : Nat → Nat → Int, cJ L K r z A' → cF ρ S z A z A' → Q A') : wp_c6_dropUnreached L K z r A P s Q := by
  obtain ⟨hs, f2, f3, f4⟩ := hF
  obtain ⟨-, -, -, ⟨e1, e2, e3, e4⟩, -, -⟩ := h7 s hs
  obtain ⟨⟨a1, a2, a3, a4⟩, ⟨b1, b2, b3, b4⟩, -, -, -⟩ := h6 P hP
  have da := cg_dig hdg a3 hP (by decide)
  have db := cg_dig hdg b3 hP (by decide)
  intro PP hPP
  have key : ∀ (k n : Nat) (A1 : Nat → Nat → Int) (x : Int), n + (k : Int) = z s 0 → x = (n : Int) → cJ L K r z A1 → cF ρ S z A z A1 → PP A1 x := by
    intro k
    induction k with
    | zero =>
      intro n A1 x hk ex j1 F1
      exact hPP A1 x ⟨hs, by omega, by omega, fun _ => hQ A1 j1 F1, fun c => by omega⟩
    | succ k ih =>
      intro n A1 x hk ex j1 F1
      subst ex
      have st : ∀ t : Int, (t = 0 ∨ t = 1) → wp_c6_dropUnreached_60 L K z r A1 P s n t n (r P 1) PP Q := by
        intro t ht
        refine ⟨b1, by omega, ht, fun A2 e2' => ?_⟩
        have j2 : cJ L K r z A2 := by rw [e2']; exact cJ_st j1 b1 db ⟨by omega, by omega, by omega, fun _ => ht⟩
        have F2 : cF ρ S z A z A2 := cF_trans F1 (by rw [e2']; exact cF_st (by rw [b4]; exact hPS))
        have rg := (j2.2 (r P 1)).2.2.2 b1 ((n : Int)).toNat
        refine ⟨hP, b1, by omega, by omega, fun _ x1 ex1 => ih (n + 1) A2 x1 (by omega) (by omega) j2 F2, fun _ => ⟨a1, by omega, fun A3 e3' x1 ex1 => ih (n + 1) A3 x1 (by omega) (by omega) ?_ (cF_trans F2 ?_)⟩⟩
        · rw [e3']; exact cJ_st j2 a1 da ⟨fun _ => by omega, by omega, by omega, by omega⟩
        · rw [e3']; exact cF_st (by rw [a4]; exact hPS)
      have ed : A1 (r s 4) = A (r s 4) := (F1 _ (by rw [e4]; exact hs')).2
      have fn := (f4 n (by omega)).2.2.2
      refine hPP A1 n ⟨hs, by omega, by omega, fun c => by omega, fun _ => ⟨e1, by omega, fun d hd => ?_⟩⟩
      rw [ed, show ((n : Int)).toNat = n by omega] at hd
      rw [← hd] at fn
      have dr : hz_rI d := by omega
      refine ⟨hP, dr, fun _ => st 1 (by omega), fun c => ?_⟩
      have d0 : 0 ≤ d := by omega
      refine wq_c7_setOf dr (fun _ => ⟨b1, by omega, ?_, fun _ => st 0 (by omega), fun _ => wq_c7_setOf dr (fun _ => ⟨a1, by omega, wq_c7_moveOf dr (fun _ => ⟨(j1.2 (r P 0)).1 a1 _, by omega, fun _ => st 0 (by omega), fun _ => st 1 (by omega)⟩) d0⟩) d0⟩) d0
      have := (j1.2 (r P 1)).2.2.2 b1 (d / 512).toNat
      omega
  exact key (z s 0).toNat 0 A 0 (by omega) rfl h (cF_refl _ _ _ _)
theorem wq_c6_work {m : Nat} {q M : Int} (h : cJ L K r z A) (hdg : ∀ a, cw_O L K 0 a → w (r a 0) = (a, 0)) (h1 : cg_1 L K r w ρ) (h2 : cg_2 L K r w ρ) (h3 : cg_3 L K r w ρ) (h6 : cg_6 L K r w ρ) (h7 : cg_7 L K r w ρ) (hP : cw_O L K 6 P) (hPS : S (ρ P)) (hF : cg_F L K r z A g) (hg : ¬ S (ρ g)) (hq : q = 0 ∨ q = 1) (hm : cw_O L K 3 m) (hmS : ¬ S (ρ m)) (hM : cm_M K r z A (r m 0) M) (hM0 : 0 ≤ M) (hfit : 100000000000000000 * M < 4294967296 ^ 32) {Q : (Nat → Nat → Int) → (Nat → Nat → Int) → Prop} (hQ : ∀ z' A' : Nat → Nat → Int, cJ L K r z' A' → cF ρ S z A z' A' → Q z' A') : wp_c6_work L K z r A P g q m Q := by
  have h6' := h6 P hP
  obtain ⟨⟨a1, a2, a3, a4⟩, -, ⟨l1, l2, l3, l4⟩, -, -⟩ := h6'
  have da := cg_dig hdg a3 hP (by decide)
  have hg0 := hF.1
  obtain ⟨-, ⟨s1, s2, s3⟩, -⟩ := h2 g hg0
  have sq := s3 q.toNat (by omega)
  have nS : ¬ S (ρ (cw_g K (r g 1) q.toNat)) := by rw [sq.2.2]; exact hg
  refine ⟨hP, wq_c6_gather h h1 h2 h3 h6 h7 hP hPS hF hg hq hm hmS hM hM0 (by omega) (fun z1 A1 j1 F1 b1 => ⟨hg0, s1, by omega, sq.1, fun x ex => ?_⟩)⟩
  have Fq := cg_F_side hF hq
  obtain ⟨s, hs⟩ : ∃ s, s = cw_g K (r g 1) q.toNat := ⟨_, rfl⟩
  rw [← hs] at sq nS b1 ex Fq ⊢
  have e0 : z1 s 0 = z s 0 := by rw [(F1 _ nS).1]
  obtain ⟨-, ⟨m1, m2, m3, m4⟩, -, -, ⟨n1, n2, n3, n4⟩, ⟨p1, p2, p3, p4⟩⟩ := h7 s sq.1
  have f2 := Fq.2.1
  intro PP hPP
  have key : ∀ (k t : Nat) (z2 A2 : Nat → Nat → Int) (x : Int), k + t = (z s 0).toNat → x = (k : Int) - 1 → cJ L K r z2 A2 → cF ρ S z A z2 A2 → (∀ i : Nat, (i : Int) < z s 5 → cb_u r z2 A2 (cw_g K (r P 2) i) ≤ 8000000000000 * M * 2 ^ t) → PP z2 A2 x := by
    intro k
    induction k with
    | zero =>
      intro t z2 A2 x hk ex j2 F2 b2
      refine hPP z2 A2 x ⟨by omega, fun _ => ⟨hP, ?_⟩, fun c => by omega⟩
      exact wq_c6_dropUnreached j2 hdg h6 h7 hP hPS (cs_F_keep h7 Fq F2 nS) nS (fun A3 j3 F3 => hQ z2 A3 j3 (cF_trans F2 F3))
    | succ k ih =>
      intro t z2 A2 x hk ex j2 F2 b2
      have F2q := cs_F_keep h7 Fq F2 nS
      have fk := Fq.2.2.2 k (by omega)
      have f3 := Fq.2.2.1
      have ek : x.toNat = k := by omega
      have e5 : z2 s 5 = z s 5 := by rw [(F2 _ nS).1]
      have e00 : z2 s 0 = z s 0 := by rw [(F2 _ nS).1]
      have em : A2 (r s 2) = A (r s 2) := (F2 _ (by rw [m4]; exact nS)).2
      have en : A2 (r s 6) = A (r s 6) := (F2 _ (by rw [n4]; exact nS)).2
      have ep : A2 (r s 7) = A (r s 7) := (F2 _ (by rw [p4]; exact nS)).2
      have pw : (2 : Int) ^ t ≤ 1024 := by
        have : (2 : Int) ^ t ≤ 2 ^ 10 := cn_pow (by omega)
        omega
      have pw0 : (0 : Int) < 2 ^ t := Int.pow_pos (by decide)
      have bt : 8000000000000 * M * 2 ^ t ≤ 8000000000000 * M * 1024 := Int.mul_le_mul_of_nonneg_left pw (by omega)
      have b1t : 8000000000000 * M * 2 ^ (t + 1) = 8000000000000 * M * 2 ^ t + 8000000000000 * M * 2 ^ t := by rw [Int.pow_succ, ← Int.mul_assoc]; omega
      have bt0 : 0 ≤ 8000000000000 * M * 2 ^ t := Int.mul_nonneg (by omega) (by omega)
      have main : ∀ d : Int, hz_rI d → wp_c6_work_49 L K z2 r A2 P q s x d x s P x (r P 0) PP Q := by
        intro d hd
        refine ⟨hP, wq_c6_bestMove j2 h6 h7 hP F2q (by omega) hd (fun v v0 v1 => ⟨a1, by omega, fun A3 e3 => ?_⟩)⟩
        rw [em, ek] at v1
        have ns : ∀ k', w (r s k') = (s, k') → r s k' ≠ r P 0 := fun k' hk' => cg_ne hk' a3 (by simp; intro e; exact absurd e (cw_O_ne sq.1 hP (by decide)))
        have c6 : A3 (r s 6) = A (r s 6) := by rw [e3, hz_s_a (ns 6 n3)]; exact en
        have c7 : A3 (r s 7) = A (r s 7) := by rw [e3, hz_s_a (ns 7 p3)]; exact ep
        have c0 : A3 (r P 0) x.toNat = v := by rw [e3, hz_s_same]
        have j3 : cJ L K r z2 A3 := by rw [e3]; exact cJ_st j2 a1 da ⟨fun _ => by omega, by omega, by omega, by omega⟩
        have F3 : cF ρ S z A z2 A3 := cF_trans F2 (by rw [e3]; exact cF_st (by rw [a4]; exact hPS))
        obtain ⟨g1, g2, g3, g4⟩ := l4 (A (r s 7) k).toNat (by omega)
        obtain ⟨o1, o2, o3, o4⟩ := l4 (A (r s 6) k + v).toNat (by omega)
        refine ⟨hP, sq.1, p1, by omega, l1, by rw [c7, ek]; omega, n1, by omega, a1, by omega, by rw [c6, c0, ek]; omega, by rw [c7, ek]; exact g1, ?_⟩
        rw [c7, c6, c0, ek]
        have b3 : ∀ i : Nat, (i : Int) < z s 5 → cb_u r z2 A3 (cw_g K (r P 2) i) ≤ 8000000000000 * M * 2 ^ t := by
          intro i hi
          have e : cb_u r z2 A3 (cw_g K (r P 2) i) = cb_u r z2 A2 (cw_g K (r P 2) i) := by
            unfold cb_u
            rw [e3, hz_s_a (da _ (l4 i (by omega)).1)]
          rw [e]
          exact b2 i hi
        have ua := b3 (A (r s 7) k).toNat (by omega)
        have ub := b3 (A (r s 6) k + v).toNat (by omega)
        have nne : cw_g K (r P 2) (A (r s 6) k + v).toNat ≠ cw_g K (r P 2) (A (r s 7) k).toNat := cg_ne o3 g3 (by simp; omega)
        refine wq_c0_plus j3.1 g1 o1 nne (by rw [g2]; omega) (fun z4 A4 k4 hY4 hv4 x1 e1 => ?_)
        refine ih (t + 1) z4 A4 x1 (by omega) (by omega) (cJ_Y j3 g1 k4 hY4) (cF_trans F3 (cF_Y h1 g1 (by rw [g4]; exact hPS) hY4)) (fun i hi => ?_)
        by_cases hii : i = (A (r s 7) k).toNat
        · have un : cb_u r z4 A4 (cw_g K (r P 2) i) ≤ cb_u r z2 A3 (cw_g K (r P 2) i) + cb_u r z2 A3 (cw_g K (r P 2) (A (r s 6) k + v).toNat) := by
            rw [hii]
            have x1' := cb_u_nn r z4 A4 (cw_g K (r P 2) (A (r s 7) k).toNat)
            have x2' := cb_u_nn r z2 A3 (cw_g K (r P 2) (A (r s 7) k).toNat)
            have x3' := cb_u_nn r z2 A3 (cw_g K (r P 2) (A (r s 6) k + v).toNat)
            unfold cb_v at hv4
            split at hv4 <;> split at hv4 <;> split at hv4 <;> omega
          have := b3 i hi
          omega
        · rw [(cb_k_other j3.1.1 g1 (l4 i (by omega)).1 (cg_ne (l4 i (by omega)).2.2.1 g3 (by simp; exact hii)) hY4).2.1]
          have := b3 i hi
          omega
      refine hPP z2 A2 x ⟨by omega, fun c => by omega, fun _ => ⟨hP, by omega, fun _ => main (-1) (by decide), fun _ => main 1 (by decide)⟩⟩
  exact key (z s 0).toNat 0 z1 A1 x (by omega) (by omega) j1 F1 (fun i hi => by have := b1 i hi; omega)
theorem wq_c6_worth (h6 : cg_6 L K r w ρ) (hP : cw_O L K 6 P) {Q : Nat → Prop} (hQ : Q (cw_g K (r P 2) 0)) : wp_c6_worth L K z r A P Q := by
  obtain ⟨-, -, ⟨l1, l2, l3, l4⟩, -, -⟩ := h6 P hP
  exact ⟨hP, l1, by omega, hQ⟩
end CP

-- 18.b22
section CP
variable {L : List Nat} {K : Nat → cw_K} {r : Nat → Nat → Nat} {z A : Nat → Nat → Int} {w : Nat → Nat × Nat} {ρ : Nat → Nat} {S : Nat → Prop} {P g : Nat}
theorem cm_T_M (h : cJ L K r z A) (h3 : cg_3 L K r w ρ) {m : Nat} (hm : cw_O L K 3 m) (hT : cm_T K r z m) : cm_M K r z A (r m 0) (4294967296 ^ 12) := by
  intro i hi
  obtain ⟨⟨p1, p2, p3, p4⟩, -⟩ := h3 m hm
  have h1 := cb_u_lt r z A (cw_g K (r m 0) i)
  have h2 := hT i hi
  have h3 := (h.1.2 _ (p4 i hi).1).1
  have h4 := cb_pow_le (m := (z (cw_g K (r m 0) i) 1).toNat) (n := 12) (by omega)
  omega
/-- what is to be expected: both mixes told -/
theorem wq_c6_meet {m n b : Nat} (h : cJ L K r z A) (h1 : cg_1 L K r w ρ) (h2 : cg_2 L K r w ρ) (h3 : cg_3 L K r w ρ) (h6 : cg_6 L K r w ρ) (h7 : cg_7 L K r w ρ) (hP : cw_O L K 6 P) (hPS : S (ρ P)) (hF : cg_F L K r z A g) (hg : ¬ S (ρ g)) (hm : cw_O L K 3 m) (hmS : ¬ S (ρ m)) (hmT : cm_T K r z m) (hn : cw_O L K 3 n) (hnS : ¬ S (ρ n)) (hnT : cm_T K r z n) (hb : cw_O L K 0 b) (hbn : cw_n K (r b 0) = 32) (hbS : S (ρ b)) (hbP : ρ b ≠ ρ P) {Q : (Nat → Nat → Int) → (Nat → Nat → Int) → Prop} (hQ : ∀ z' A' : Nat → Nat → Int, cJ L K r z' A' → cF ρ S z A z' A' → Q z' A') : wp_c6_meet L K z r A P g m n b Q := by
  obtain ⟨-, -, ⟨l1, l2, l3, l4⟩, -, ⟨t1, t2, t3, t4⟩⟩ := h6 P hP
  obtain ⟨⟨p1, p2, p3, p4⟩, -⟩ := h3 m hm
  have hg0 := hF.1
  obtain ⟨-, ⟨s1, s2, s3⟩, -⟩ := h2 g hg0
  have sq := s3 0 (by omega)
  have nS : ¬ S (ρ (cw_g K (r g 1) 0)) := by rw [sq.2.2]; exact hg
  have F0 := hF.2.1
  have f3 := F0.2.2.1
  have M12 := cm_T_M h h3 hn hnT
  refine ⟨hP, wq_c6_gather (M := 4294967296 ^ 12) h h1 h2 h3 h6 h7 hP hPS hF hg (Or.inl rfl) hn hnS M12 (by decide) (by decide) (fun z1 A1 j1 F1 b1 => ⟨hb, ?_⟩)⟩
  refine wq_c0_put j1.1 hb (by omega) (fun z2 A2 k2 hY2 hv2 _ => ?_)
  have j2 := cJ_Y j1 hb k2 hY2
  have F2 : cF ρ S z A z2 A2 := cF_trans F1 (cF_Y h1 hb hbS hY2)
  have nb : ∀ c, ρ c = ρ P → c ≠ b := fun c hc e => hbP (by rw [← e, hc])
  have b2 : ∀ i : Nat, (i : Int) < z (cw_g K (r g 1) 0) 5 → cb_u r z2 A2 (cw_g K (r P 2) i) ≤ 8000000000000 * 4294967296 ^ 12 := by
    intro i hi
    obtain ⟨g1, g2, g3, g4⟩ := l4 i (by omega)
    rw [(cb_k_other j1.1.1 hb g1 (nb _ g4) hY2).2.1]
    exact b1 i hi
  have u2 : cb_u r z2 A2 b = 0 := (cb_u0 (k2.2 _ hb) k2.1 hb).mp ((cb_v0 (k2.2 _ hb) k2.1 hb).mpr hv2)
  have gr : r P 2 ≠ P := Ne.symm (cw_OG_ne hP l1)
  intro PP hPP
  have key : ∀ (k n : Nat) (z3 A3 : Nat → Nat → Int) (x : Int), n + (k : Int) = z (cw_g K (r g 1) 0) 5 → x = (n : Int) → cJ L K r z3 A3 → cF ρ S z A z3 A3 → (∀ i : Nat, (i : Int) < z (cw_g K (r g 1) 0) 5 → cb_u r z3 A3 (cw_g K (r P 2) i) ≤ 8000000000000 * 4294967296 ^ 12) → cb_u r z3 A3 b ≤ 8000000000000 * 4294967296 ^ 12 * 4294967296 ^ 12 * (n : Int) → PP z3 A3 x := by
    intro k
    induction k with
    | zero =>
      intro n z3 A3 x hk ex j3 F3 b3 u3
      have e0 : z3 (cw_g K (r g 1) 0) 5 = z (cw_g K (r g 1) 0) 5 := by rw [(F3 _ nS).1]
      exact hPP z3 A3 x ⟨hg0, s1, by omega, sq.1, by omega, by show hz_rI (z3 (cw_g K (r g 1) 0) 5); omega, fun _ => hQ z3 A3 j3 F3, fun c => absurd (show z3 (cw_g K (r g 1) 0) 5 ≤ x by omega) c⟩
    | succ k ih =>
      intro n z3 A3 x hk ex j3 F3 b3 u3
      subst ex
      have e0 : z3 (cw_g K (r g 1) 0) 5 = z (cw_g K (r g 1) 0) 5 := by rw [(F3 _ nS).1]
      have e9 : ((n : Int)).toNat = n := by omega
      obtain ⟨g1, g2, g3, g4⟩ := l4 n (by omega)
      obtain ⟨a1, a2, a3, a4⟩ := p4 n (by omega)
      have kg := (j3.1.2 _ g1).1
      have ka := (j3.1.2 _ a1).1
      refine hPP z3 A3 n ⟨hg0, s1, by omega, sq.1, by omega, by show hz_rI (z3 (cw_g K (r g 1) 0) 5); omega, fun c => absurd (show z3 (cw_g K (r g 1) 0) 5 ≤ (n : Int) from c) (by omega), fun _ => ⟨hP, l1, by omega, hm, p1, by omega, t1, ?_⟩⟩
      rw [e9]
      have am : ∀ c, ρ c = ρ P → cw_g K (r m 0) n ≠ c := fun c hc e => hmS (by rw [← a4, e, hc]; exact hPS)
      have gt : cw_g K (r P 2) n ≠ r P 4 := cg_ne g3 t3 (by simp; intro e; exact absurd e gr)
      refine wq_c0_putProduct j3.1 t1 g1 a1 gt (am _ t4) (by omega) (fun z4 A4 k4 hY4 hv4 _ => ⟨hb, ?_⟩)
      have j4 := cJ_Y j3 t1 k4 hY4
      have F4 : cF ρ S z A z4 A4 := cF_trans F3 (cF_Y h1 t1 (by rw [t4]; exact hPS) hY4)
      have um : cb_u r z3 A3 (cw_g K (r m 0) n) ≤ 4294967296 ^ 12 := by
        rw [(cF_big h1 F3 a1 (by rw [a4]; exact hmS)).1]
        exact cm_T_M h h3 hm hmT n (by omega)
      have ug := b3 n (by omega)
      have ut : cb_u r z4 A4 (r P 4) ≤ 8000000000000 * 4294967296 ^ 12 * 4294967296 ^ 12 := by
        have e1 : cb_u r z4 A4 (r P 4) = ((cb_v r z4 A4 (r P 4)).natAbs : Int) := by
          have := cb_u_nn r z4 A4 (r P 4)
          unfold cb_v
          split <;> omega
        have e2 : ∀ c, ((cb_v r z3 A3 c).natAbs : Int) = cb_u r z3 A3 c := by
          intro c
          have := cb_u_nn r z3 A3 c
          unfold cb_v
          split <;> omega
        rw [e1, hv4, Int.natAbs_mul, Int.natCast_mul, e2, e2]
        exact Int.mul_le_mul ug um (cb_u_nn _ _ _ _) (by decide)
      have ub4 : cb_u r z4 A4 b = cb_u r z3 A3 b := (cb_k_other j3.1.1 t1 hb (Ne.symm (nb _ t4)) hY4).2.1
      have nle : (n : Int) ≤ 19 := by omega
      have nb2 : 8000000000000 * 4294967296 ^ 12 * 4294967296 ^ 12 * (n : Int) ≤ 8000000000000 * 4294967296 ^ 12 * 4294967296 ^ 12 * 19 := Int.mul_le_mul_of_nonneg_left nle (by decide)
      have fits : (8000000000000 * 4294967296 ^ 12 * 4294967296 ^ 12 * 20 : Int) < 4294967296 ^ 32 := by decide
      have n1 : 8000000000000 * 4294967296 ^ 12 * 4294967296 ^ 12 * ((n + 1 : Nat) : Int) = 8000000000000 * 4294967296 ^ 12 * 4294967296 ^ 12 * (n : Int) + 8000000000000 * 4294967296 ^ 12 * 4294967296 ^ 12 := by
        rw [Int.natCast_add, Int.mul_add]
        rfl
      generalize hC : (8000000000000 * 4294967296 ^ 12 * 4294967296 ^ 12 : Int) = C at *
      refine wq_c0_plus j4.1 hb t1 (nb _ t4) (by rw [hbn, ub4]; omega) (fun z5 A5 k5 hY5 hv5 x1 e1 => ?_)
      have un : cb_u r z5 A5 b ≤ cb_u r z4 A4 b + cb_u r z4 A4 (r P 4) := by
        have x1' := cb_u_nn r z5 A5 b
        have x2' := cb_u_nn r z4 A4 b
        have x3' := cb_u_nn r z4 A4 (r P 4)
        unfold cb_v at hv5
        split at hv5 <;> split at hv5 <;> split at hv5 <;> omega
      refine ih (n + 1) z5 A5 x1 (by omega) (by omega) (cJ_Y j4 hb k5 hY5) (cF_trans F4 (cF_Y h1 hb hbS hY5)) (fun i hi => ?_) (by omega)
      obtain ⟨q1, q2, q3, q4⟩ := l4 i (by omega)
      rw [(cb_k_other j4.1.1 hb q1 (nb _ q4) hY5).2.1, (cb_k_other j3.1.1 t1 q1 (cg_ne q3 t3 (by simp; intro e; exact absurd e gr)) hY4).2.1]
      exact b3 i hi
  exact key (z (cw_g K (r g 1) 0) 5).toNat 0 z2 A2 0 (by omega) rfl j2 F2 b2 (by rw [u2]; decide)
theorem wq_c3_isMix {m s : Nat} {M : Int} (h : cJ L K r z A) (h1 : cg_1 L K r w ρ) (h3 : cg_3 L K r w ρ) (h7 : cg_7 L K r w ρ) (hm : cw_O L K 3 m) (hmS : S (ρ m)) (hF : cs_F L K r z A s) (hs' : ¬ S (ρ s)) (hM : cm_M K r z A (r m 0) M) (hM0 : 0 ≤ M) (hfit : 10 * M < 4294967296 ^ 32) {Q : Int → (Nat → Nat → Int) → (Nat → Nat → Int) → Prop} (hQ : ∀ (x : Int) (z' A' : Nat → Nat → Int), cJ L K r z' A' → cF ρ S z A z' A' → (∀ a, a ≠ r m 1 → z' a = z a) → (∀ a, a ≠ r (r m 1) 0 → A' a = A a) → (x = 0 ∨ x = 1) → Q x z' A') : wp_c3_isMix L K z r A m s Q := by
  obtain ⟨⟨p1, p2, p3, p4⟩, ⟨t1, t2, t3, t4⟩⟩ := h3 m hm
  have gr : r m 0 ≠ m := Ne.symm (cw_OG_ne hm p1)
  have hs := hF.1
  have f2 := hF.2.1
  have f3 := hF.2.2.1
  obtain ⟨-, ⟨m1, m2, m3, m4⟩, -, -, ⟨n1, n2, n3, n4⟩, ⟨q1, q2, q3, q4⟩⟩ := h7 s hs
  have tS : S (ρ (r m 1)) := by rw [t4]; exact hmS
  have pt : ∀ i, i < 20 → cw_g K (r m 0) i ≠ r m 1 := fun i hi => cg_ne (p4 i hi).2.2.1 t3 (by simp; intro e; exact absurd e gr)
  have two : wp_c3_isMix_32 L K z r A m s 0 Q := by
    intro PP hPP
    have key : ∀ (k n : Nat) (z1 A1 : Nat → Nat → Int) (x : Int), n + (k : Int) = z s 0 → x = (n : Int) → cJ L K r z1 A1 → cF ρ S z A z1 A1 → cb_Y r (r m 1) z A z1 A1 → PP z1 A1 x := by
      intro k
      induction k with
      | zero =>
        intro n z1 A1 x hk ex j1 F1 Y1
        have e0 : z1 s 0 = z s 0 := by rw [(F1 _ hs').1]
        refine hPP z1 A1 x ⟨hs, by omega, by omega, fun _ => ⟨hm, p1, by omega, (p4 0 (by omega)).1, wq_c0_sign j1.1 (p4 0 (by omega)).1 (fun v _ _ _ v4 => ⟨by omega, fun _ => ⟨by omega, hQ 0 z1 A1 j1 F1 Y1.1 Y1.2 (by omega)⟩, fun _ => ⟨by omega, hQ 1 z1 A1 j1 F1 Y1.1 Y1.2 (by omega)⟩⟩)⟩, fun c => by omega⟩
      | succ k ih =>
        intro n z1 A1 x hk ex j1 F1 Y1
        have e0 : z1 s 0 = z s 0 := by rw [(F1 _ hs').1]
        have e9 : x.toNat = n := by omega
        have fn := hF.2.2.2 n (by omega)
        refine hPP z1 A1 x ⟨hs, by omega, by omega, fun c => by omega, fun _ => ⟨hm, t1, wq_c0_put j1.1 t1 (by omega) (fun z2 A2 k2 hY2 hv2 _ => ?_)⟩⟩
        have u2 : cb_u r z2 A2 (r m 1) = 0 := (cb_u0 (k2.2 _ t1) k2.1 t1).mp ((cb_v0 (k2.2 _ t1) k2.1 t1).mpr hv2)
        intro P2 hP2
        have inner : ∀ (k2 j : Nat) (z3 A3 : Nat → Nat → Int) (i : Int), j + (k2 : Int) = A (r s 2) n → i = (j : Int) → cJ L K r z3 A3 → cF ρ S z A z3 A3 → cb_Y r (r m 1) z A z3 A3 → cb_u r z3 A3 (r m 1) ≤ M * (j : Int) → P2 z3 A3 i := by
          intro k2
          induction k2 with
          | zero =>
            intro j z3 A3 i hj ei j3 F3 Y3 u3
            have em : A3 (r s 2) = A (r s 2) := (F3 _ (by rw [m4]; exact hs')).2
            have eq : A3 (r s 7) = A (r s 7) := (F3 _ (by rw [q4]; exact hs')).2
            refine hP2 z3 A3 i ⟨hs, m1, by omega, by omega, by rw [em, e9]; omega, fun _ => ⟨hm, q1, by omega, p1, by rw [eq, e9]; omega, t1, wq_c0_order j3.1 t1 (p4 _ (by rw [eq, e9]; omega)).1 (fun v v1 _ _ _ => ⟨by omega, fun _ x1 e1 => ih (n + 1) z3 A3 x1 (by omega) (by omega) j3 F3 Y3, fun _ => hQ 0 z3 A3 j3 F3 Y3.1 Y3.2 (by omega)⟩)⟩, fun c => ?_⟩
            rw [em, e9] at c; omega
          | succ k2 ih2 =>
            intro j z3 A3 i hj ei j3 F3 Y3 u3
            have em : A3 (r s 2) = A (r s 2) := (F3 _ (by rw [m4]; exact hs')).2
            have en : A3 (r s 6) = A (r s 6) := (F3 _ (by rw [n4]; exact hs')).2
            obtain ⟨a1, a2, a3, a4⟩ := p4 (A (r s 6) n + i).toNat (by omega)
            have ne := pt (A (r s 6) n + i).toNat (by omega)
            have ua : cb_u r z3 A3 (cw_g K (r m 0) (A (r s 6) n + i).toNat) ≤ M := by
              rw [(cb_k_other h.1.1 t1 a1 ne Y3).2.1]
              exact hM _ (by omega)
            have mj : M * ((j + 1 : Nat) : Int) = M * (j : Int) + M := by rw [Int.natCast_add, Int.mul_add]; simp
            have mb : M * (j : Int) ≤ M * 4 := Int.mul_le_mul_of_nonneg_left (by omega) hM0
            refine hP2 z3 A3 i ⟨hs, m1, by omega, by omega, by rw [em, e9]; omega, fun c => ?_, fun _ => ⟨hm, n1, by omega, p1, by rw [en, e9]; omega, t1, ?_⟩⟩
            · rw [em, e9] at c; omega
            · rw [en, e9]
              refine wq_c0_plus j3.1 t1 a1 ne (by rw [t2]; omega) (fun z4 A4 k4 hY4 hv4 x1 e1 => ?_)
              have un : cb_u r z4 A4 (r m 1) ≤ cb_u r z3 A3 (r m 1) + cb_u r z3 A3 (cw_g K (r m 0) (A (r s 6) n + i).toNat) := by
                have x1' := cb_u_nn r z4 A4 (r m 1)
                have x2' := cb_u_nn r z3 A3 (r m 1)
                have x3' := cb_u_nn r z3 A3 (cw_g K (r m 0) (A (r s 6) n + i).toNat)
                unfold cb_v at hv4
                split at hv4 <;> split at hv4 <;> split at hv4 <;> omega
              exact ih2 (j + 1) z4 A4 x1 (by omega) (by omega) (cJ_Y j3 t1 k4 hY4) (cF_trans F3 (cF_Y h1 t1 tS hY4)) (cb_Y_trans Y3 hY4) (by omega)
        exact inner (A (r s 2) n).toNat 0 z2 A2 0 (by omega) rfl (cJ_Y j1 t1 k2 hY2) (cF_trans F1 (cF_Y h1 t1 tS hY2)) (cb_Y_trans Y1 hY2) (by rw [u2]; simp)
    exact key (z s 0).toNat 0 z A 0 (by omega) rfl h (cF_refl _ _ _ _) (cb_Y_refl _ _ _ _)
  intro PP hPP
  have key : ∀ (k n : Nat) (x : Int), n + (k : Int) = z s 5 → x = (n : Int) → PP x := by
    intro k
    induction k with
    | zero =>
      intro n x hk ex
      exact hPP x ⟨hs, by omega, by omega, fun _ => two, fun c => by omega⟩
    | succ k ih =>
      intro n x hk ex
      refine hPP x ⟨hs, by omega, by omega, fun c => by omega, fun _ => ⟨hm, p1, by omega, (p4 x.toNat (by omega)).1, wq_c0_sign h.1 (p4 x.toNat (by omega)).1 (fun v _ _ _ v4 => ⟨by omega, fun _ x1 e1 => ih (n + 1) x1 (by omega) (by omega), fun _ => hQ 0 z A h (cF_refl _ _ _ _) (fun _ _ => rfl) (fun _ _ => rfl) (by omega)⟩)⟩⟩
  exact key (z s 5).toNat 0 0 (by omega) rfl
end CP

-- 18.b23
section CZ
variable {L : List Nat} {K : Nat → cw_K} {r : Nat → Nat → Nat} {z A : Nat → Nat → Int} {w : Nat → Nat × Nat} {ρ : Nat → Nat} {S : Nat → Prop} {V g : Nat}
/-- how large a cell of the first table may be -/
noncomputable def cz_b (R a c i j : Nat) : Int := if j = c then 4503599627370496 else if j < a then (if i < R then 400000000000 else 5000000000000) else 1
noncomputable def cz_B (K : Nat → cw_K) (r : Nat → Nat → Nat) (z A : Nat → Nat → Int) (V R a c : Nat) : Prop := ∀ i j : Nat, i ≤ R → j ≤ c → ((cb_v r z A (cw_g K (r V 0) (i * 30 + j))).natAbs : Int) ≤ cz_b R a c i j
theorem wq_c8_cell {i j : Int} (h8 : cg_8 L K r w ρ) (hV : cw_O L K 8 V) (hi : 0 ≤ i ∧ i < 30) (hj : 0 ≤ j ∧ j < 30) {Q : Nat → Prop} (hQ : Q (cw_g K (r V 0) (i.toNat * 30 + j.toNat))) : wp_c8_cell L K z r A V i j Q := by
  obtain ⟨⟨c1, c2, c3, c4⟩, -⟩ := h8 V hV
  refine ⟨hV, c1, by omega, ?_⟩
  rw [show (i * 30 + j).toNat = i.toNat * 30 + j.toNat by omega]
  exact hQ
/-- a value put into a cell -/
theorem cz_B_put {R a c i j : Nat} {z' A' : Nat → Nat → Int} {v : Int} (h : cJ L K r z A) (h8 : cg_8 L K r w ρ) (hV : cw_O L K 8 V) (hR : R < 30) (hc : c < 30) (hB : cz_B K r z A V R a c) (hi : i < 30) (hj : j < 30) (hY : cb_Y r (cw_g K (r V 0) (i * 30 + j)) z A z' A') (hv : cb_v r z' A' (cw_g K (r V 0) (i * 30 + j)) = v) (hb : (v.natAbs : Int) ≤ cz_b R a c i j) : cz_B K r z' A' V R a c := by
  obtain ⟨⟨c1, c2, c3, c4⟩, -⟩ := h8 V hV
  intro i' j' hi' hj'
  by_cases e : i' * 30 + j' = i * 30 + j
  · rw [e, hv]
    have e1 : i' = i := by omega
    have e2 : j' = j := by omega
    rw [e1, e2]
    exact hb
  · rw [(cb_k_other h.1.1 (c4 (i * 30 + j) (by omega)).1 (c4 (i' * 30 + j') (by omega)).1 (cg_ne (c4 (i' * 30 + j') (by omega)).2.2.1 (c4 (i * 30 + j) (by omega)).2.2.1 (by simp; exact e)) hY).2.2]
    exact hB i' j' hi' hj'
/-- nothing of the cells has changed -/
theorem cz_B_keep {R a c : Nat} {z' A' : Nat → Nat → Int} (h8 : cg_8 L K r w ρ) (hV : cw_O L K 8 V) (hR : R < 30) (hc : c < 30) (hB : cz_B K r z A V R a c) (e : ∀ b, cw_O L K 0 b → cb_v r z' A' b = cb_v r z A b) : cz_B K r z' A' V R a c := by
  obtain ⟨⟨c1, c2, c3, c4⟩, -⟩ := h8 V hV
  intro i j hi hj
  rw [e _ (c4 (i * 30 + j) (by omega)).1]
  exact hB i j hi hj
theorem cb_v_st {x : Nat} {i v : Int} (hd : ∀ b, cw_O L K 0 b → r b 0 ≠ x) (b : Nat) (hb : cw_O L K 0 b) : cb_v r z (hz_s A x i v) b = cb_v r z A b := by
  unfold cb_v cb_u
  rw [hz_s_a (hd b hb)]
theorem cb_v_s {a k : Nat} {v : Int} (b : Nat) (hb : b ≠ a) : cb_v r (cw_s z a k v) A b = cb_v r z A b := by
  unfold cb_v cb_u
  rw [cw_s_a hb]
/-- all cells 0, the unknowns numbered, the scale 1 -/
theorem wq_c8_clear {R a c : Nat} (h : cJ L K r z A) (hdg : ∀ a, cw_O L K 0 a → w (r a 0) = (a, 0)) (h1 : cg_1 L K r w ρ) (h8 : cg_8 L K r w ρ) (hV : cw_O L K 8 V) (hVS : S (ρ V)) (e4 : z V 4 = (R : Int)) (e5 : z V 5 = (c : Int)) (hR : R < 30) (hc : c < 30) {Q : (Nat → Nat → Int) → (Nat → Nat → Int) → Prop} (hQ : ∀ z' A' : Nat → Nat → Int, cJ L K r z' A' → cF ρ S z A z' A' → z' V = z V → cz_B K r z' A' V R a c → cb_v r z' A' (r V 9) = 1 → (∀ i : Nat, i < R → 0 ≤ A' (r V 1) i ∧ A' (r V 1) i < 60) → (∀ i : Nat, i < c → 0 ≤ A' (r V 2) i ∧ A' (r V 2) i < 60) → Q z' A') : wp_c8_clear L K z r A V Q := by
  have h8' := h8 V hV
  obtain ⟨⟨c1, c2, c3, c4⟩, ⟨u1, u2, u3, u4⟩, ⟨v1, v2, v3, v4⟩, -, ⟨s1, s2, s3, s4⟩, -, -, -⟩ := h8'
  have du := cg_dig hdg u3 hV (by decide)
  have dv := cg_dig hdg v3 hV (by decide)
  have uv : r V 1 ≠ r V 2 := cg_ne u3 v3 (by simp)
  have gr : r V 0 ≠ V := Ne.symm (cw_OG_ne hV c1)
  have VB : ∀ b, cw_O L K 0 b → V ≠ b := fun b hb => cw_O_ne hV hb (by decide)
  have bnd : ∀ i j, 0 ≤ cz_b R a c i j := by
    intro i j
    unfold cz_b
    split
    · decide
    · split
      · split <;> decide
      · decide
  -- the last: columns' unknowns, scale
  have three : ∀ z1 A1 : Nat → Nat → Int, cJ L K r z1 A1 → cF ρ S z A z1 A1 → z1 V = z V → cz_B K r z1 A1 V R a c → (∀ i : Nat, i < R → 0 ≤ A1 (r V 1) i ∧ A1 (r V 1) i < 60) → wp_c8_clear_72 L K z1 r A1 V 0 Q := by
    intro z1 A1 j1 F1 o1 B1 r1 PP hPP
    have key : ∀ (k n : Nat) (A2 : Nat → Nat → Int) (x : Int), n + k = c → x = (n : Int) → cJ L K r z1 A2 → cF ρ S z A z1 A2 → cz_B K r z1 A2 V R a c → (∀ i : Nat, i < R → 0 ≤ A2 (r V 1) i ∧ A2 (r V 1) i < 60) → (∀ i : Nat, i < n → 0 ≤ A2 (r V 2) i ∧ A2 (r V 2) i < 60) → PP A2 x := by
      intro k
      induction k with
      | zero =>
        intro n A2 x hk ex j2 F2 B2 r2 q2
        refine hPP A2 x ⟨hV, by omega, by rw [o1, e5]; omega, fun _ => ⟨s1, ?_⟩, fun c9 => by rw [o1, e5] at c9; omega⟩
        refine wq_c0_put j2.1 s1 (by omega) (fun z3 A3 k3 hY3 hv3 _ => ?_)
        refine hQ z3 A3 (cJ_Y j2 s1 k3 hY3) (cF_trans F2 (cF_Y h1 s1 (by rw [s4]; exact hVS) hY3)) (by rw [hY3.1 V (VB _ s1)]; exact o1) ?_ hv3 (fun i hi => by rw [hY3.2 _ (Ne.symm (du _ s1))]; exact r2 i hi) (fun i hi => by rw [hY3.2 _ (Ne.symm (dv _ s1))]; exact q2 i (by omega))
        intro i j hi hj
        rw [(cb_k_other j2.1.1 s1 (c4 (i * 30 + j) (by omega)).1 (cg_ne (c4 (i * 30 + j) (by omega)).2.2.1 s3 (by simp; intro e; exact absurd e gr)) hY3).2.2]
        exact B2 i j hi hj
      | succ k ih =>
        intro n A2 x hk ex j2 F2 B2 r2 q2
        subst ex
        refine hPP A2 n ⟨hV, by omega, by rw [o1, e5]; omega, fun c9 => by rw [o1, e5] at c9; omega, fun _ => ⟨v1, by omega, fun A3 e3 x1 ex1 => ?_⟩⟩
        refine ih (n + 1) A3 x1 (by omega) (by omega) (by rw [e3]; exact cJ_st j2 v1 dv ⟨fun _ => by omega, by omega, by omega, by omega⟩) (cF_trans F2 (by rw [e3]; exact cF_st (by rw [v4]; exact hVS))) (cz_B_keep h8 hV hR hc B2 (fun b hb => by rw [e3]; exact cb_v_st dv b hb)) (fun i hi => by rw [e3, hz_s_a uv]; exact r2 i hi) (fun i hi => ?_)
        rw [e3]
        by_cases hin : i = n
        · have := hz_s_same (A := A2) (r V 2) (n : Int) (n : Int)
          rw [show ((n : Int)).toNat = n by omega] at this
          rw [hin, this]
          omega
        · rw [hz_s_i (by omega)]; exact q2 i (by omega)
    exact key c 0 A1 0 (by omega) rfl j1 F1 B1 r1 (fun i hi => by omega)
  have two : ∀ z1 A1 : Nat → Nat → Int, cJ L K r z1 A1 → cF ρ S z A z1 A1 → z1 V = z V → cz_B K r z1 A1 V R a c → wp_c8_clear_44 L K z1 r A1 V 0 Q := by
    intro z1 A1 j1 F1 o1 B1 PP hPP
    have key : ∀ (k n : Nat) (A2 : Nat → Nat → Int) (x : Int), n + k = R → x = (n : Int) → cJ L K r z1 A2 → cF ρ S z A z1 A2 → cz_B K r z1 A2 V R a c → (∀ i : Nat, i < n → 0 ≤ A2 (r V 1) i ∧ A2 (r V 1) i < 60) → PP A2 x := by
      intro k
      induction k with
      | zero =>
        intro n A2 x hk ex j2 F2 B2 r2
        refine hPP A2 x ⟨hV, by omega, by rw [o1, e4]; omega, fun _ => three z1 A2 j2 F2 o1 B2 (fun i hi => r2 i (by omega)), fun c9 => by rw [o1, e4] at c9; omega⟩
      | succ k ih =>
        intro n A2 x hk ex j2 F2 B2 r2
        subst ex
        refine hPP A2 n ⟨hV, by omega, by rw [o1, e4]; omega, fun c9 => by rw [o1, e4] at c9; omega, fun _ => ⟨u1, by omega, fun A3 e3 x1 ex1 => ?_⟩⟩
        rw [o1, e5] at e3
        refine ih (n + 1) A3 x1 (by omega) (by omega) (by rw [e3]; exact cJ_st j2 u1 du ⟨fun _ => by omega, by omega, by omega, by omega⟩) (cF_trans F2 (by rw [e3]; exact cF_st (by rw [u4]; exact hVS))) (cz_B_keep h8 hV hR hc B2 (fun b hb => by rw [e3]; exact cb_v_st du b hb)) (fun i hi => ?_)
        rw [e3]
        by_cases hin : i = n
        · have := hz_s_same (A := A2) (r V 1) (n : Int) ((c : Int) + (n : Int))
          rw [show ((n : Int)).toNat = n by omega] at this
          rw [hin, this]
          omega
        · rw [hz_s_i (by omega)]; exact r2 i (by omega)
    exact key R 0 A1 0 (by omega) rfl j1 F1 B1 (fun i hi => by omega)
  intro PP hPP
  have key : ∀ (k n : Nat) (z1 A1 : Nat → Nat → Int) (x : Int), n + k = R + 1 → x = (n : Int) → cJ L K r z1 A1 → cF ρ S z A z1 A1 → z1 V = z V → (∀ i j : Nat, i < n → j ≤ c → cb_v r z1 A1 (cw_g K (r V 0) (i * 30 + j)) = 0) → PP z1 A1 x := by
    intro k
    induction k with
    | zero =>
      intro n z1 A1 x hk ex j1 F1 o1 b1
      refine hPP z1 A1 x ⟨hV, by omega, by rw [o1, e4]; omega, fun _ => two z1 A1 j1 F1 o1 (fun i j hi hj => by rw [b1 i j (by omega) hj]; exact bnd i j), fun c9 => by rw [o1, e4] at c9; omega⟩
    | succ k ih =>
      intro n z1 A1 x hk ex j1 F1 o1 b1
      subst ex
      refine hPP z1 A1 n ⟨hV, by omega, by rw [o1, e4]; omega, fun c9 => by rw [o1, e4] at c9; omega, fun _ => ?_⟩
      intro P2 hP2
      have inner : ∀ (k2 j : Nat) (z2 A2 : Nat → Nat → Int) (y : Int), j + k2 = c + 1 → y = (j : Int) → cJ L K r z2 A2 → cF ρ S z A z2 A2 → z2 V = z V → (∀ i q : Nat, i < n → q ≤ c → cb_v r z2 A2 (cw_g K (r V 0) (i * 30 + q)) = 0) → (∀ q : Nat, q < j → cb_v r z2 A2 (cw_g K (r V 0) (n * 30 + q)) = 0) → P2 z2 A2 y := by
        intro k2
        induction k2 with
        | zero =>
          intro j z2 A2 y hj ey j2 F2 o2 b2 d2
          refine hP2 z2 A2 y ⟨hV, by omega, by rw [o2, e5]; omega, fun _ x1 e1 => ih (n + 1) z2 A2 x1 (by omega) (by omega) j2 F2 o2 (fun i q hi hq => ?_), fun c9 => by rw [o2, e5] at c9; omega⟩
          by_cases hin : i = n
          · rw [hin]; exact d2 q (by omega)
          · exact b2 i q (by omega) hq
        | succ k2 ih2 =>
          intro j z2 A2 y hj ey j2 F2 o2 b2 d2
          subst ey
          obtain ⟨g1, g2, g3, g4⟩ := c4 (n * 30 + j) (by omega)
          refine hP2 z2 A2 j ⟨hV, by omega, by rw [o2, e5]; omega, fun c9 => by rw [o2, e5] at c9; omega, fun _ => wq_c8_cell h8 hV (by omega) (by omega) ?_⟩
          rw [show ((n : Int)).toNat * 30 + ((j : Int)).toNat = n * 30 + j by omega]
          refine ⟨g1, wq_c0_put j2.1 g1 (by omega) (fun z3 A3 k3 hY3 hv3 _ x1 e1 => ?_)⟩
          have oth : ∀ q, q < 900 → q ≠ n * 30 + j → cb_v r z3 A3 (cw_g K (r V 0) q) = cb_v r z2 A2 (cw_g K (r V 0) q) := fun q hq hne => (cb_k_other j2.1.1 g1 (c4 q hq).1 (cg_ne (c4 q hq).2.2.1 g3 (by simp; exact hne)) hY3).2.2
          refine ih2 (j + 1) z3 A3 x1 (by omega) (by omega) (cJ_Y j2 g1 k3 hY3) (cF_trans F2 (cF_Y h1 g1 (by rw [g4]; exact hVS) hY3)) (by rw [hY3.1 V (VB _ g1)]; exact o2) (fun i q hi hq => ?_) (fun q hq => ?_)
          · rw [oth _ (by omega) (by omega)]; exact b2 i q hi hq
          · by_cases hqj : q = j
            · rw [hqj]; exact hv3
            · rw [oth _ (by omega) (by omega)]; exact d2 q (by omega)
      exact inner (c + 1) 0 z1 A1 0 (by omega) rfl j1 F1 o1 b1 (fun q hq => by omega)
  exact key (R + 1) 0 z A 0 (by omega) rfl h (cF_refl _ _ _ _) rfl (fun i j hi => by omega)
end CZ
