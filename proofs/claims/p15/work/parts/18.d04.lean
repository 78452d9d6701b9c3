theorem sp_g_l (a b : Int) : sp_g a b ∣ a := by
  unfold sp_g
  first
  | exact Int.gcd_dvd_left a b
  | exact Int.gcd_dvd_left
theorem sp_g_r (a b : Int) : sp_g a b ∣ b := by
  unfold sp_g
  first
  | exact Int.gcd_dvd_right a b
  | exact Int.gcd_dvd_right
section CV
variable {L : List Nat} {K : Nat → cw_K} {r : Nat → Nat → Nat} {z A : Nat → Nat → Int} {w : Nat → Nat × Nat} {ρ : Nat → Nat} {z0 A0 : Nat → Nat → Int} {R : Nat} {P : Nat → Int → Prop} {O : Nat → Nat → Prop} {E : Int} {c : Nat → Int} {n : Nat} {T : sp_T} {ps : Nat → Nat} {nt : Nat} {σ : Nat → Nat → Int}
theorem wv_c11_gcd {a b : Int} (ha : -9223372036854775808 < a ∧ a < 9223372036854775808) (hb : -9223372036854775808 < b ∧ b < 9223372036854775808) {Q : Int → Prop} (hQ : ∀ x : Int, x = sp_g a b → 0 ≤ x → x < 9223372036854775808 → x ∣ a → x ∣ b → Q x) : wp_c11_gcd L K z r A a b Q := by
  refine ⟨by omega, by omega, fun x ex => ⟨by omega, by omega, fun y ey => ?_⟩⟩
  intro P hP
  have fin : ∀ x y : Int, y = 0 → Int.gcd x y = Int.gcd a b → 0 ≤ x → x < 9223372036854775808 → Q x := by
    intro x y ey hd h0 h1
    have e : x = sp_g a b := by
      unfold sp_g
      rw [← hd, ey]
      exact (sp_g0 h0).symm
    exact hQ x e h0 h1 (by rw [e]; exact sp_g_l a b) (by rw [e]; exact sp_g_r a b)
  have key : ∀ (k n : Nat) (x y i : Int), n + k = 199 → i = (n : Int) → (0 ≤ x ∧ x < 9223372036854775808) → (0 ≤ y ∧ y < x) → x * y < 2 ^ k → Int.gcd x y = Int.gcd a b → P x y i := by
    intro k
    induction k with
    | zero =>
      intro n x y i hk ei hx hy hxy hd
      have y0 : y = 0 := by
        apply Classical.byContradiction
        intro c
        have : 1 * 1 ≤ x * y := Int.mul_le_mul (by omega) (by omega) (by omega) (by omega)
        have : (2 : Int) ^ 0 = 1 := rfl
        omega
      exact hP x y i ⟨by omega, fun c => by omega, fun _ => ⟨by omega, fun _ => fin x y y0 hd hx.1 hx.2, fun c => absurd y0 c⟩⟩
    | succ k ih =>
      intro n x y i hk ei hx hy hxy hd
      refine hP x y i ⟨by omega, fun c => by omega, fun _ => ⟨by omega, fun y0 => fin x y y0 hd hx.1 hx.2, fun c => ⟨c, by omega, by omega, fun t et j ej => ?_⟩⟩⟩
      rw [Int.tmod_eq_emod_of_nonneg hx.1] at et
      have h1 := Int.emod_nonneg x (show y ≠ 0 by omega)
      have h2 := Int.emod_lt_of_pos x (show 0 < y by omega)
      have h3 := cq_half (by omega) (by omega) et
      have h4 : y * (2 * t) ≤ y * x := Int.mul_le_mul_of_nonneg_left h3 (by omega)
      have h5 : y * (2 * t) = 2 * (y * t) := by grind
      have h6 : y * x = x * y := Int.mul_comm y x
      have h7 : (2 : Int) ^ (k + 1) = 2 * 2 ^ k := by rw [Int.pow_succ, Int.mul_comm]
      refine ih (n + 1) y t j (by omega) (by omega) (by omega) (by omega) ?_ ?_
      · rw [h7] at hxy
        omega
      · rw [et, sp_gst hx.1 hy.1]
        exact hd
  have start : Int.gcd x y = Int.gcd a b := sp_gabs (by omega) (by omega)
  refine hP x y 0 ⟨by decide, fun c => by omega, fun _ => ⟨by omega, fun y0 => fin x y y0 start (by omega) (by omega), fun c => ⟨c, by omega, by omega, fun t et j ej => ?_⟩⟩⟩
  rw [Int.tmod_eq_emod_of_nonneg (by omega)] at et
  have h1 := Int.emod_nonneg x (show y ≠ 0 by omega)
  have h2 := Int.emod_lt_of_pos x (show 0 < y by omega)
  have h3 : y * t ≤ 9223372036854775808 * 9223372036854775808 := Int.mul_le_mul (by omega) (by omega) (by omega) (by omega)
  have h4 : (9223372036854775808 * 9223372036854775808 : Int) < 2 ^ 198 := by decide +kernel
  exact key 198 1 y t j (by omega) (by omega) (by omega) (by omega) (by omega) (by rw [et, sp_gst (by omega) (by omega)]; exact start)
theorem wv_c11_lcm {a b M : Int} (ha : 0 ≤ a ∧ a < 9223372036854775808) (hb : 0 ≤ b ∧ b < 9223372036854775808) (hab : a * b ≤ M) (hM : M < 9223372036854775808) {Q : Int → Prop} (hQ : ∀ x : Int, x = sp_l a b → 0 ≤ x → x ≤ M → Q x) : wp_c11_lcm L K z r A a b Q := by
  refine wv_c11_gcd (by omega) (by omega) (fun g eg g0 g1 _ _ => wq_c11_quotient (by omega) ⟨g0, g1⟩ (fun q q1 _ q3 q4 x xr xe => ?_))
  have eq : q = sp_q a g := sp_q_of q3 q4 g0
  have q1 := q1 ha.1
  have h1 : q * b ≤ a * b := Int.mul_le_mul_of_nonneg_right q1.2 hb.1
  have h2 : 0 ≤ q * b := Int.mul_nonneg q1.1 hb.1
  have e : x = q * b := by
    generalize q * b = t at *
    generalize a * b = t2 at *
    omega
  exact hQ x (by rw [e, eq, eg]; rfl) (by omega) (by omega)
/-- word k is the one that is looked at -/
noncomputable def cv_w (L : List Nat) (K : Nat → cw_K) (r : Nat → Nat → Nat) (c : Nat → Int) (n : Nat) (T : sp_T) (ps : Nat → Nat) (nt : Nat) (z A : Nat → Nat → Int) (R k : Nat) : Prop := cq_w L K r c n z A R (ps k) ∧ k < nt ∧ z (r R 2) 2 = T.1 k ∧ z (r R 2) 3 = T.2.1 k ∧ (T.1 k = 48 → z (r R 2) 4 = T.2.2 k)
theorem cv_w_keep {k : Nat} {z' A' : Nat → Nat → Int} (h : cv_w L K r c n T ps nt z A R k) (hz : z' (r R 2) = z (r R 2)) (hA : A' (r (r R 2) 0) = A (r (r R 2) 0)) (hR : z' R 0 = z R 0 ∧ z' R 1 = z R 1) : cv_w L K r c n T ps nt z' A' R k := by
  obtain ⟨h1, h2, h3, h4, h5⟩ := h
  exact ⟨cq_w_keep h1 hz hA hR, h2, by rw [hz]; exact h3, by rw [hz]; exact h4, by rw [hz]; exact h5⟩
/-- the kind of a word that may stand -/
theorem cv_s {k : Nat} {d e : Int} {st : List Int} (h : cv_w L K r c n T ps nt z A R k) (a : cq_A c n d st e (ps k)) (hd : ¬ d = 10 ∨ ¬ st = []) : ∃ d' st' e', cq_s d st e (T.1 k) d' st' e' := by
  obtain ⟨⟨T0, hn, hc, b, q, w3, w5, hR, hk, hf⟩, kl, wk, wp, wv⟩ := h
  rcases cq_inv a hR with ⟨_, a1, a2⟩ | ⟨k0, d', st', e', s, a'⟩
  · rcases hd with hd | hd
    · exact absurd a1 hd
    · exact absurd a2 hd
  · rw [wk] at s
    exact ⟨d', st', e', s⟩
theorem cv_adv (TK : tk_T c n T ps nt) {k : Nat} {d e : Int} {st : List Int} (h : cv_w L K r c n T ps nt z A R k) (a : cq_A c n d st e (ps k)) (hd : ¬ d = 10 ∨ ¬ st = []) {Q : (Nat → Nat → Int) → Prop} (hQ : ∀ (z' : Nat → Nat → Int) (d' : Int) (st' : List Int) (e' : Int), (∀ a, a ≠ (r R 2) → z' a = z a) → cv_w L K r c n T ps nt z' A R (k + 1) → cq_s d st e (T.1 k) d' st' e' → cq_A c n d' st' e' (ps (k + 1)) → Q z') : wp_c10_advance L K z r A (r R 2) Q := by
  obtain ⟨⟨T0, hn, hc, b, q, w3, w5, hR, hk, hf⟩, kl, wk, wp, wv⟩ := h
  obtain ⟨bb, t1, t2, t3, t4, t5⟩ := TK.2.2 k kl
  obtain ⟨u1, u2, u3⟩ := cl_R_uniq hR t1
  rcases cq_inv a hR with ⟨_, a1, a2⟩ | ⟨k0, d', st', e', s, a'⟩
  · rcases hd with hd | hd
    · exact absurd a1 hd
    · exact absurd a2 hd
  · have t4' := T0.2.2.2.1
    have g5 := hR.2.2.2.2
    have qn : (q : Int) ≤ z (r R 2) 1 := by
      rcases g5 with g | g | g
      · omega
      · omega
      · omega
    have k1 : k + 1 < nt := by
      apply Classical.byContradiction
      intro q9
      rcases t5 (by omega) with q9 | q9
      · exact k0 (by rw [wk]; exact q9)
      · rw [wk, q9] at s
        rcases s with s | s | s | s | s | s | s | s | s | s | s | s | s | s <;> omega
    subst u3
    obtain ⟨bb', t1', t2', t3', -, -⟩ := TK.2.2 (k + 1) k1
    refine wv_c10_advance T0 w5 qn (fun z' b' q' o T' l1 l3 l5 hR' hk' hv => ?_)
    rw [hn, hc] at hR'
    obtain ⟨v1, v2, v3⟩ := cl_R_uniq hR' t1'
    refine hQ z' d' st' e' o ⟨⟨T', by rw [l1]; exact hn, hc, b', q', l3, l5, hR', hk', by rw [o R hf.1]; exact hf⟩, k1, v1, by rw [l3, t2', v2], fun q48 => ?_⟩ (by rw [← wk]; exact s) a'
    rw [hv (by rw [v1]; exact q48), t3' q48, hc, v2, v3]
theorem wv_c5_refuse {y1 y2 : Int} (X : cq_X L K r w ρ R) (F : cF ρ (cq_r r ρ R) z0 A0 z A) (J : cJ L K r z A) (T : cl_T L K r z A (r R 2)) (h1 : ¬ y1 = 0 ∧ hz_rI y1) (h2 : hz_rI y2) {Q : Int → (Nat → Nat → Int) → Prop} (hQ : ∀ z', cq_E L K r ρ R z0 A0 z' A → z' R 1 = y1 → z' R 0 = y2 → Q 0 z') : wp_c5_refuse L K z r A R y1 y2 Q := by
  have wr := (cq_o3 X).2.2.1
  refine ⟨X.1, fun z1 e1 z2 e2 => ?_⟩
  have hz : ∀ a, a ≠ (r R 2) → a ≠ R → z2 a = z a := fun a _ ha => by rw [e2, cw_s_a ha, e1, cw_s_a ha]
  have f1 : z2 R 1 = y1 := by rw [e2, cw_s_k (by decide), e1, cw_s_same]
  have f0 : z2 R 0 = y2 := by rw [e2, cw_s_same]
  exact hQ z2 ⟨cF_trans F (cq_fr X hz), cq_fJ X J hz, cl_T_keep T (by rw [e2, cw_s_a wr, e1, cw_s_a wr]) rfl, by rw [f1]; exact h1.1, by rw [f1]; exact h1.2, by rw [f0]; exact h2⟩ f1 f0
theorem wv_c5_goThroughFraction {v e : Int} {st : List Int} {k : Nat} (TK : tk_T c n T ps nt) (X : cq_X L K r w ρ R) (F : cF ρ (cq_r r ρ R) z0 A0 z A) (J : cJ L K r z A) (h : cv_w L K r c n T ps nt z A R k) (a : cq_A c n 5 st e (ps k)) (hv : v = 0 ∨ v = 1) {Q : Int → (Nat → Nat → Int) → Prop} (h1 : ∀ (z' : Nat → Nat → Int), (∀ a, a ≠ (r R 2) → a ≠ R → z' a = z a) → cv_w L K r c n T ps nt z' A R (sp_fe T k) → cq_A c n 9 st e (ps (sp_fe T k)) → (1 ≤ z' R 8 ∧ z' R 8 ≤ 9999) → (-9999 ≤ z' R 7 ∧ z' R 7 ≤ 9999) → (v = 1 → 0 ≤ z' R 7 ∧ z' R 7 ≤ z' R 8) → z' R 7 = sp_rt T k → z' R 8 = sp_rb T k → ¬ sp_fb T k = 0 → (v = 1 → 0 < sp_ft T k ∧ sp_ft T k ≤ sp_fb T k) → Q 1 z') (h0 : ∀ z', cq_E L K r ρ R z0 A0 z' A → z' R 1 = 3 → z' R 0 = T.2.1 k → (sp_fb T k = 0 ∨ (v = 1 ∧ (sp_ft T k ≤ 0 ∨ sp_fb T k < sp_ft T k))) → Q 0 z') : wp_c5_goThroughFraction L K z r A R v Q := by
  have wr := (cq_o3 X).2.2.1
  have main : ∀ (z1 : Nat → Nat → Int) (x2 x4 x6 : Int), (∀ a, a ≠ (r R 2) → a ≠ R → z1 a = z a) → cv_w L K r c n T ps nt z1 A R (sp_fe T k) → cq_A c n 9 st e (ps (sp_fe T k)) → hz_rI x2 → x2 = T.2.1 k → (-9999 ≤ x4 ∧ x4 ≤ 9999) → x4 = sp_ft T k → (0 ≤ x6 ∧ x6 ≤ 9999) → x6 = sp_fb T k → wp_c5_goThroughFraction_109 L K z1 r A R v x2 x4 x6 Q := by
    intro z1 x2 x4 x6 o hw ha hx2 ex2 hx4 ex4 hx6 ex6
    have no : (x6 = 0 ∨ (v = 1 ∧ (x4 ≤ 0 ∨ x6 < x4))) → wp_c5_goThroughFraction_135 L K z1 r A R x2 Q := fun why => ⟨X.1, wv_c5_refuse X (cF_trans F (cq_fr X o)) (cq_fJ X J o) hw.1.1 (by decide) hx2 (fun z' e e1 e0 => ⟨Or.inl rfl, h0 z' e e1 (by rw [e0, ex2]) (by rw [← ex4, ← ex6]; exact why)⟩)⟩
    have yes : ¬ x6 = 0 → (v = 1 → 0 < x4 ∧ x4 ≤ x6) → wp_c5_goThroughFraction_142 L K z1 r A R x4 x6 Q := by
      intro n0 hv1
      refine wv_c11_gcd (by omega) (by omega) (fun g eg g0 g1 ga gb => wq_c11_quotient (by omega) ⟨g0, g1⟩ (fun q q1 q2 q3 q4 => ⟨X.1, fun z2 e2 => wq_c11_quotient (by omega) ⟨g0, g1⟩ (fun b b1 b2 b3 b4 z3 e3 => ?_)⟩))
      have gle : g ≤ x6 := Int.le_of_dvd (by omega) gb
      have gp : 0 < g := by
        apply Classical.byContradiction
        intro hg
        obtain ⟨k, hk⟩ := gb
        rw [show g = 0 by omega, Int.zero_mul] at hk
        exact n0 hk
      have eqq : q = sp_q x4 g := sp_q_of q3 q4 g0
      have ebb : b = sp_q x6 g := sp_q_of b3 b4 g0
      have eb : b = x6 / g := by rw [b3 gp, Int.tdiv_eq_ediv_of_nonneg hx6.1]
      have b1 := b1 hx6.1
      have bp : 1 ≤ b := by rw [eb]; exact Int.le_ediv_of_mul_le gp (by omega)
      have f7 : z3 R 7 = q := by rw [e3, cw_s_k (by decide), e2, cw_s_same]
      have f8 : z3 R 8 = b := by rw [e3, cw_s_same]
      refine h1 z3 (fun a' a1' a2' => by rw [e3, cw_s_a a2', e2, cw_s_a a2']; exact o a' a1' a2') (cv_w_keep hw (by rw [e3, cw_s_a wr, e2, cw_s_a wr]) rfl ⟨by rw [e3, cw_s_k (by decide), e2, cw_s_k (by decide)], by rw [e3, cw_s_k (by decide), e2, cw_s_k (by decide)]⟩) ha (by rw [f8]; omega) ?_ (fun hv' => ?_) (by rw [f7, eqq, eg, ex4, ex6]; rfl) (by rw [f8, ebb, eg, ex4, ex6]; rfl) (by rw [← ex6]; exact n0) (by rw [← ex4, ← ex6]; exact hv1)
      · rw [f7]
        by_cases s : 0 ≤ x4
        · have := q1 s; omega
        · have := q2 (by omega); omega
      · have hx := hv1 hv'
        have := q1 (by omega)
        rw [f7, f8, eb]
        refine ⟨this.1, ?_⟩
        rw [q3 gp, Int.tdiv_eq_ediv_of_nonneg (by omega)]
        exact Int.ediv_le_ediv gp hx.2
    exact ⟨by omega, fun q => no (Or.inl q), fun n0 => ⟨by omega, fun c => yes n0 (by omega), fun c => ⟨by omega, fun q => no (Or.inr ⟨by omega, Or.inl q⟩), fun c2 => ⟨by omega, by omega, fun c3 => yes n0 (by omega), fun q => no (Or.inr ⟨by omega, Or.inr (by omega)⟩)⟩⟩⟩⟩
  have at61 : ∀ (z1 : Nat → Nat → Int) (d x2 x4 : Int), (∀ a, a ≠ (r R 2) → a ≠ R → z1 a = z a) → cv_w L K r c n T ps nt z1 A R (sp_fs T k) → cq_A c n d st e (ps (sp_fs T k)) → ((d = 5 ∧ ¬ T.1 (sp_fs T k) = 45) ∨ d = 6) → hz_rI x2 → x2 = T.2.1 k → (-9999 ≤ x4 ∧ x4 ≤ 9999) → x4 = sp_ft T k → wp_c5_goThroughFraction_61 L K z1 r A R v x2 x4 Q := by
    intro z1 d x2 x4 o hw ha hd hx2 ex2 hx4 ex4
    refine ⟨X.1, X.2.1, cv_adv TK hw ha (Or.inl (by omega)) (fun z2 d2 st2 e2 o2 hw2 s2 a2 => ?_)⟩
    have s7 : st2 = st ∧ e2 = e ∧ d2 = 7 := by
      rcases hd with ⟨hd, hk⟩ | hd
      · subst hd
        obtain ⟨q1, q2, q3⟩ := cq_5 s2
        exact ⟨q1, q2, by omega⟩
      · subst hd
        obtain ⟨q1, q2, q3, q4⟩ := cq_6 s2
        exact ⟨q1, q2, q4⟩
    rw [s7.1, s7.2.1, s7.2.2] at a2
    have o12 : ∀ a, a ≠ (r R 2) → a ≠ R → z2 a = z a := fun a a1 a2 => by rw [o2 a a1]; exact o a a1 a2
    obtain ⟨⟨T2, hn2, hc2, b2, q2, w3, w5, hR2, hk2, -⟩, -, wk2, -, -⟩ := id hw2
    refine ⟨hk2, fun c47 => ?_, fun c47 => ?_⟩
    · rw [wk2] at c47
      have ee : sp_fe T k = sp_fs T k + 1 := by unfold sp_fe; rw [if_neg c47]
      have eb : sp_fb T k = 1 := by unfold sp_fb; rw [if_neg c47]
      refine main z2 x2 x4 1 o12 (by rw [ee]; exact hw2) ?_ hx2 ex2 hx4 ex4 (by omega) eb.symm
      rw [ee]
      rcases cq_inv a2 hR2 with ⟨_, q, _⟩ | ⟨k0, d', st', e', s, a'⟩
      · omega
      · rcases cq_7 s with ⟨q, _⟩ | ⟨_, s'⟩
        · rw [wk2] at q; exact absurd q c47
        · exact cq_A_step hR2 k0 s' a'
    · rw [wk2] at c47
      refine cv_adv TK hw2 a2 (Or.inl (by decide)) (fun z3 d3 st3 e3 o3 hw3 s3 a3 => ?_)
      have s8 : st3 = st ∧ e3 = e ∧ d3 = 8 := by
        rcases cq_7 s3 with ⟨_, q1, q2, q3⟩ | ⟨q, _⟩
        · exact ⟨q1, q2, q3⟩
        · exact absurd c47 q
      rw [s8.1, s8.2.1, s8.2.2] at a3
      have t5 := (cq_w_b hw3.1).2.2
      refine ⟨by omega, fun x6 ex6 => cv_adv TK hw3 a3 (Or.inl (by decide)) (fun z4 d4 st4 e4 o4 hw4 s4 a4 => ?_)⟩
      obtain ⟨q1, q2, q3, q4⟩ := cq_8 s4
      rw [q1, q2, q4] at a4
      have ee : sp_fe T k = sp_fs T k + 1 + 1 + 1 := by unfold sp_fe; rw [if_pos c47]
      have eb : sp_fb T k = T.2.2 (sp_fs T k + 1 + 1) := by unfold sp_fb; rw [if_pos c47]
      exact main z4 x2 x4 x6 (fun a a1 a2 => by rw [o4 a a1, o3 a a1]; exact o12 a a1 a2) (by rw [ee]; exact hw4) (by rw [ee]; exact a4) hx2 ex2 hx4 ex4 (by omega) (by rw [eb, ex6]; exact hw3.2.2.2.2 q3)
  have at37 : ∀ (z1 : Nat → Nat → Int) (d x2 x3 : Int), (∀ a, a ≠ (r R 2) → a ≠ R → z1 a = z a) → cv_w L K r c n T ps nt z1 A R (sp_fs T k) → cq_A c n d st e (ps (sp_fs T k)) → ((d = 5 ∧ ¬ T.1 k = 45 ∧ sp_fs T k = k ∧ x3 = 0) ∨ (d = 6 ∧ T.1 k = 45 ∧ sp_fs T k = k + 1 ∧ x3 = 1)) → hz_rI x2 → x2 = T.2.1 k → wp_c5_goThroughFraction_37 L K z1 r A R v x2 x3 Q := by
    intro z1 d x2 x3 o hw ha hd hx2 ex2
    have t5 := (cq_w_b hw.1).2.2
    have k48 : T.1 (sp_fs T k) = 48 := by
      obtain ⟨d', st', e', s⟩ := cv_s hw ha (Or.inl (by omega))
      rcases hd with ⟨hd, hd1, hd2, -⟩ | ⟨hd, -⟩
      · rw [hd] at s
        obtain ⟨-, -, q⟩ := cq_5 s
        rw [← hd2] at hd1
        omega
      · rw [hd] at s
        exact (cq_6 s).2.2.1
    have val := hw.2.2.2.2 k48
    exact ⟨by omega, fun q => ⟨X.1, X.2.1, by omega, at61 z1 d x2 _ o hw ha (by rcases hd with ⟨h1, h2, h3, h4⟩ | ⟨h1, -⟩; exact Or.inl ⟨h1, by rw [h3]; exact h2⟩; exact Or.inr h1) hx2 ex2 (by omega) (by
      rcases hd with ⟨h1, h2, h3, h4⟩ | ⟨h1, h2, h3, h4⟩
      · unfold sp_ft; rw [if_neg h2, val, h3]
      · omega)⟩, fun q => ⟨X.1, X.2.1, by omega, at61 z1 d x2 _ o hw ha (by rcases hd with ⟨h1, h2, h3, h4⟩ | ⟨h1, -⟩; exact Or.inl ⟨h1, by rw [h3]; exact h2⟩; exact Or.inr h1) hx2 ex2 (by omega) (by
      rcases hd with ⟨h1, h2, h3, h4⟩ | ⟨h1, h2, h3, h4⟩
      · omega
      · unfold sp_ft; rw [if_pos h2, val, h3])⟩⟩
  have hb := cq_w_b h.1
  have wk := h.2.2.1
  have wp := h.2.2.2.1
  refine ⟨X.1, X.2.1, fun x2 ex2 => ⟨hb.2.1, fun q => ⟨by decide, fun _ => ?_, fun q => absurd rfl q⟩, fun q => ⟨by decide, fun q9 => absurd q9 (by decide), fun _ => ⟨X.1, X.2.1, cv_adv TK h a (Or.inl (by decide)) (fun z2 d2 st2 e2 o2 hw2 s2 a2 => ?_)⟩⟩⟩⟩
  · rw [wk] at q
    have es : sp_fs T k = k := by unfold sp_fs; rw [if_neg q]
    exact at37 z 5 x2 0 (fun _ _ _ => rfl) (by rw [es]; exact h) (by rw [es]; exact a) (Or.inl ⟨rfl, q, es, rfl⟩) (by omega) (by rw [ex2, wp])
  · rw [wk] at q
    have es : sp_fs T k = k + 1 := by unfold sp_fs; rw [if_pos q]
    obtain ⟨q1, q2, q3⟩ := cq_5 s2
    rw [q1, q2, show d2 = 6 by omega] at a2
    exact at37 z2 6 x2 1 (fun a a1 _ => o2 a a1) (by rw [es]; exact hw2) (by rw [es]; exact a2) (Or.inr ⟨rfl, q, es, rfl⟩) (by omega) (by rw [ex2, wp])
end CV
