theorem sp_dd_dr {t k a b : Nat} {mv y2 y4 : Int} {l : List (Int × Int)} {F : List sp_F} : sp_dd t ((k, 63, a, b, mv, y2, y4, l) :: F) = sp_dd t F := by simp [sp_dd]
theorem sp_dd_own {t k b : Nat} {kd mv y2 y4 : Int} {l : List (Int × Int)} {F : List sp_F} (h : ¬ kd = 63) : sp_dd t ((k, kd, t, b, mv, y2, y4, l) :: F) = (b : Int) * 512 + mv := by simp [sp_dd, h]
theorem sp_dd_ot {t t' k b : Nat} {kd mv y2 y4 : Int} {l : List (Int × Int)} {F : List sp_F} (h : t' ≠ t) : sp_dd t ((k, kd, t', b, mv, y2, y4, l) :: F) = sp_dd t F := by simp [sp_dd, h]
theorem sp_ml_fr {q : Int × Int} {l : List (Int × Int)} (h : ¬ (sp_ml l).1 < 1000000000) : sp_ml (q :: l) = sp_ml l := by
  simp only [sp_ml]
  rw [if_neg h]
theorem sp_ml_go {q : Int × Int} {l : List (Int × Int)} (h : (sp_ml l).1 < 1000000000) : sp_ml (q :: l) = (sp_l (sp_ml l).1 q.2, (sp_ml l).2 * sp_q (sp_l (sp_ml l).1 q.2) (sp_ml l).1 + q.1 * sp_q (sp_l (sp_ml l).1 q.2) q.2) := by
  simp only [sp_ml]
  rw [if_pos h]
section CK
variable {L : List Nat} {K : Nat → cw_K} {r : Nat → Nat → Nat} {z A : Nat → Nat → Int} {w : Nat → Nat × Nat} {ρ : Nat → Nat} {z0 A0 : Nat → Nat → Int} {R : Nat} {P : Nat → Int → Prop} {O : Nat → Nat → Prop} {E : Int} {c : Nat → Int} {n : Nat} {T : sp_T} {ps : Nat → Nat} {nt : Nat} {σ : Nat → Nat → Int}
/-- what is asked of a node -/
noncomputable def cv_N (L : List Nat) (K : Nat → cw_K) (r : Nat → Nat → Nat) (ρ : Nat → Nat) (R : Nat) (z0 A0 : Nat → Nat → Int) (c : Nat → Int) (n : Nat) (T : sp_T) (ps : Nat → Nat) (nt : Nat) (N : ((Nat → Nat → Int) → (Nat → Nat → Int) → Nat → Int → Int → Int → Int → Int → (Int → (Nat → Nat → Int) → (Nat → Nat → Int) → Prop) → Prop)) (m : Nat) : Prop :=
  ∀ (z A : Nat → Nat → Int) (P : Nat → Int → Prop) (O : Nat → Nat → Prop) (E : Int) (st : List Int) (e : Int) (k : Nat) (F9 : List sp_F) (σ : Nat → Nat → Int) (y1 y2 y4 y6 y7 : Int) (Q : Int → (Nat → Nat → Int) → (Nat → Nat → Int) → Prop), cq_D L K r ρ R z0 A0 P O E z A → sc_R K r R σ z A → cq_n r A R E 0 → cv_w L K r c n T ps nt z A R k → cq_A c n 1 st e (ps k) → (0 ≤ y1 ∧ y1 ≤ 21 ∧ 22 ≤ y1 + (m : Int)) → y1 = (F9.length : Int) → (0 ≤ y2 ∧ y2 ≤ y4 ∧ y4 ≤ 10000000000000) → cq_d r z A (cw_g K (r (r R 3) 1) 0) (P 0) y6 → cq_d r z A (cw_g K (r (r R 3) 1) 1) (P 1) y7 → y6 = sp_dd 0 F9 → y7 = sp_dd 1 F9 → (∀ (E' : Int) (z' A' : Nat → Nat → Int) (k' : Nat) (σ' : Nat → Nat → Int), cq_D L K r ρ R z0 A0 P O E' z' A' → sc_R K r R σ' z' A' → cq_n r A' R E' 0 → cq_M K r z A z' A' R → cv_w L K r c n T ps nt z' A' R k' → cq_A c n 10 st 0 (ps k') → σ 0 0 + 1 ≤ σ' 0 0 → sp_r T (sp_bg T σ k F9 y2 y4) (0, -1, k', σ', F9) → Q 1 z' A') → (∀ z' A', cq_E L K r ρ R z0 A0 z' A' → sp_r T (sp_bg T σ k F9 y2 y4) (sp_x (z' R 1) (z' R 0)) → Q 0 z' A') → N z A R y1 y2 y4 y6 y7 Q
theorem cv_cnt {i v : Int} {A' : Nat → Nat → Int} {k : Nat} (X : cq_X L K r w ρ R) (D : cq_D L K r ρ R z0 A0 P O E z A) (S : sc_R K r R σ z A) (hw : cv_w L K r c n T ps nt z A R k) (hi : ¬ i.toNat = 1) (e : A' = hz_s A (r (r R 3) 0) i v) (hv : hz_rI v) : cq_D L K r ρ R z0 A0 P O E z A' ∧ cq_M K r z A z A' R ∧ cv_w L K r c n T ps nt z A' R k ∧ sc_R K r R (hz_s σ 0 i v) z A' := by
  obtain ⟨a, b, d⟩ := cq_cnt X D hw.1 e hv
  exact ⟨a, b, ⟨d, hw.2⟩, sc_cnt X S hi e⟩
theorem wv_c5_goThroughDraw {N : ((Nat → Nat → Int) → (Nat → Nat → Int) → Nat → Int → Int → Int → Int → Int → (Int → (Nat → Nat → Int) → (Nat → Nat → Int) → Prop) → Prop)} {m : Nat} {y1 y2 y4 y6 y7 e : Int} {st : List Int} {k : Nat} (F9 : List sp_F) (TK : tk_T c n T ps nt) (X : cq_X L K r w ρ R) (hN : cv_N L K r ρ R z0 A0 c n T ps nt N m) (D : cq_D L K r ρ R z0 A0 P O E z A) (S : sc_R K r R σ z A) (N1 : cq_n r A R E 1) (h : cv_w L K r c n T ps nt z A R k) (a : cq_A c n 1 st e (ps k)) (hk : T.1 k = 63) (hln : y1 = (F9.length : Int)) (s1n : 1 ≤ σ 0 0) (hy1 : 0 ≤ y1 ∧ y1 ≤ 20 ∧ 21 ≤ y1 + (m : Int)) (hy : 0 ≤ y2 ∧ y2 ≤ y4 ∧ y4 ≤ 10000000000000) (h6 : cq_d r z A (cw_g K (r (r R 3) 1) 0) (P 0) y6) (h7 : cq_d r z A (cw_g K (r (r R 3) 1) 1) (P 1) y7) (hd6 : y6 = sp_dd 0 F9) (hd7 : y7 = sp_dd 1 F9) {Q : Int → (Nat → Nat → Int) → (Nat → Nat → Int) → Prop} (h1 : ∀ (E' : Int) (z' A' : Nat → Nat → Int) (k' : Nat) (σ' : Nat → Nat → Int), cq_D L K r ρ R z0 A0 P O E' z' A' → sc_R K r R σ' z' A' → cq_n r A' R E' 0 → cq_M K r z A z' A' R → cv_w L K r c n T ps nt z' A' R k' → cq_A c n 10 st 0 (ps k') → σ 0 0 ≤ σ' 0 0 → sp_r T (sp_bd T σ k F9 y2 y4) (0, -1, k', σ', F9) → Q 1 z' A') (h0 : ∀ z' A', cq_E L K r ρ R z0 A0 z' A' → sp_r T (sp_bd T σ k F9 y2 y4) (sp_x (z' R 1) (z' R 0)) → Q 0 z' A') : wp_c5_goThroughDraw L K N z r A R y1 y2 y4 y6 y7 Q := by
  obtain ⟨c1, c2, c3, c4⟩ := cq_wc X
  have o := cq_o3 X
  have hb := cq_w_b h.1
  have wp := h.2.2.2.1
  refine ⟨X.1, X.2.1, fun x8 e8 => ⟨by omega, fun y4l => ⟨X.2.2.2.1, c1, by omega, by omega, fun A1 eA => ?_⟩, fun lg => wv_c5_refuse X D.1 D.2.1 h.1.1 (by decide) (by omega) (fun z' e e1 e0 => ⟨Or.inl rfl, h0 z' A e (by rw [e1, e0, e8, wp]; unfold sp_bd; rw [if_pos (by omega)]; exact sp_r_refl _ _)⟩)⟩⟩
  obtain ⟨N2, rv⟩ := cq_n_2 N1 eA
  obtain ⟨D1, M1, w1, S1⟩ := cv_cnt X D S h (show ¬ (2 : Int).toNat = 1 by decide) eA rv
  have c2s : A (r (r R 3) 0) (2 : Int).toNat = σ 0 2 := S.1 2 (by decide)
  rw [c2s] at S1
  have bd : sp_bd T σ k F9 y2 y4 = (0, -1, k + 2, hz_s σ 0 2 (σ 0 2 + 1), (k, 63, 0, 0, -1, y2, y4, []) :: F9) := by unfold sp_bd; rw [if_neg (by omega)]
  rw [bd] at h1 h0
  have nd0 : hz_s σ 0 2 (σ 0 2 + 1) 0 0 = σ 0 0 := hz_s_i (by decide)
  refine cv_adv TK w1 a (Or.inl (by decide)) (fun z1 d1 st1 e1 o1 hw1 s1 a1 => ?_)
  obtain ⟨q1, q2⟩ := cq_1 s1
  rw [q1, show d1 = 4 by omega, show e1 = 0 by omega] at a1
  have of1 : ∀ a, a ≠ r R 2 → a ≠ R → z1 a = z a := fun a a1 _ => o1 a a1
  intro PP hPP
  have fin : ∀ (j : Nat) (z2 A2 : Nat → Nat → Int) (E2 d2 : Int) (st2 : List Int) (kc km : Nat) (mv : Int) (l : List (Int × Int)) (σ2 : Nat → Nat → Int) (x9 x10 x12 : Int), j ≤ 400 → x9 = (j : Int) → (0 ≤ x10 ∧ x10 ≤ 10000000000000) → (0 ≤ x12 ∧ x12 ≤ (j : Int) * x10) → ((d2 = 4 ∧ st2 = st ∧ j = 0 ∧ km = kc + 1) ∨ (d2 = 10 ∧ st2 = 1 :: st ∧ 1 ≤ j ∧ km = kc)) → cq_D L K r ρ R z0 A0 P O E2 z2 A2 → sc_R K r R σ2 z2 A2 → cq_n r A2 R E2 0 → cq_M K r z A z2 A2 R → cv_w L K r c n T ps nt z2 A2 R kc → cq_A c n d2 st2 0 (ps kc) → mv + 1 = (j : Int) → x10 = (sp_ml l).1 → x12 = (sp_ml l).2 → (σ 0 0 ≤ σ2 0 0 ∧ (j : Int) + 1 ≤ σ2 0 0) → sp_r T (0, -1, k + 2, hz_s σ 0 2 (σ 0 2 + 1), (k, 63, 0, 0, -1, y2, y4, []) :: F9) (0, -1, km, σ2, (k, 63, 0, 0, mv, y2, y4, l) :: F9) → z2 (r R 2) 2 = 41 → wp_c5_goThroughDraw_227 L K N z2 r A2 R x8 x9 x10 x12 Q := by
    intro j z2 A2 E2 d2 st2 kc km mv l σ2 x9 x10 x12 hj e9 b10 b12 hd D2 S2 N2 M2 w2 a2 hmv e10 e12 hnc hrun k41
    have hd' : ¬ d2 = 10 ∨ ¬ st2 = [] := by
      rcases hd with ⟨hd, hs, -⟩ | ⟨hd, hs, -⟩
      · exact Or.inl (by omega)
      · exact Or.inr (by rw [hs]; simp)
    refine ⟨X.1, X.2.1, cv_adv TK w2 a2 hd' (fun z3 d3 st3 e3 o3 hw3 s3 a3 => ?_)⟩
    have of3 : ∀ a, a ≠ r R 2 → a ≠ R → z3 a = z2 a := fun a a1 _ => o3 a a1
    have D3 := cq_D_z X D2 of3
    have S3 := sc_z X S2 of3
    have b12' : (j : Int) * x10 ≤ 400 * 10000000000000 := Int.mul_le_mul (by omega) b10.2 b10.1 (by omega)
    have k41' : T.1 kc = 41 := by rw [← w2.2.2.1]; exact k41
    rcases hd with ⟨hd, hs, -⟩ | ⟨hd, hs, hj1, hkm⟩
    · rw [hd, hs] at s3
      obtain ⟨-, -, q3, -⟩ := cq_4 s3
      omega
    · subst hkm
      have stp : sp_go T (0, -1, km, σ2, (k, 63, 0, 0, mv, y2, y4, l) :: F9) = sp_fi T σ2 km (k, 63, 0, 0, mv, y2, y4, l) F9 := by
        show (if (0 : Int) = 0 then (if 0 ≤ mv then (if T.1 km = 44 then _ else _) else _) else _) = _
        rw [if_pos rfl, if_pos (by omega), if_neg (by rw [k41']; decide)]
      have fi : sp_fi T σ2 km (k, 63, 0, 0, mv, y2, y4, l) F9 = (if 8 < mv + 1 then sp_x 2 (T.2.1 k) else if 1000000000 ≤ (sp_ml l).1 then sp_x 6 (T.2.1 k) else if (sp_ml l).2 = (sp_ml l).1 then (0, -1, km + 1, σ2, F9) else sp_x 3 (T.2.1 k)) := if_pos rfl
      refine wv_c5_endDraw X D3.1 D3.2.1 hw3.1.1 (by omega) (by omega) (by omega) (by omega) (fun q ql qs => ⟨Or.inr rfl, ?_⟩) (fun z' e e0 why => ⟨Or.inl rfl, h0 z' A2 e (sp_r_trans hrun (sp_r_step ?_))⟩)
      · rw [hd, hs] at s3
        obtain ⟨q1, q2⟩ := cq_10 s3
        rcases q2 with ⟨-, ⟨x, hx⟩, qd⟩ | ⟨qk, -⟩
        · have hs3 : st = st3 := List.tail_eq_of_cons_eq hx
          rw [← hs3, qd, q1] at a3
          refine h1 E2 z3 A2 (km + 1) σ2 D3 S3 N2 (cq_M_trans M2 (cq_M_z X of3)) hw3 a3 hnc.1 (sp_r_trans hrun (sp_r_step ?_))
          rw [stp, fi, if_neg (by omega), if_neg (by rw [← e10]; exact ql), if_pos (by rw [← e10, ← e12]; exact qs)]
          exact sp_r_refl _ _
        · omega
      · rw [stp, fi, e0, e8, wp]
        rcases why with ⟨y, why⟩ | ⟨y, why, why2⟩ | ⟨y, why, why2, why3⟩
        · rw [if_pos (by omega), y]
          exact sp_r_refl _ _
        · rw [if_neg (by omega), if_pos (by rw [← e10]; exact why2), y]
          exact sp_r_refl _ _
        · rw [if_neg (by omega), if_neg (by rw [← e10]; exact why2), if_neg (by rw [← e10, ← e12]; exact why3), y]
          exact sp_r_refl _ _
  have key : ∀ (k0 j : Nat) (z2 A2 : Nat → Nat → Int) (E2 d2 : Int) (st2 : List Int) (kc km : Nat) (mv : Int) (l : List (Int × Int)) (σ2 : Nat → Nat → Int) (x9 x10 x12 x14 : Int), j + k0 = 400 → x9 = (j : Int) → x14 = (j : Int) → (0 ≤ x10 ∧ x10 ≤ 10000000000000) → (0 ≤ x12 ∧ x12 ≤ (j : Int) * x10) → ((d2 = 4 ∧ st2 = st ∧ j = 0 ∧ km = kc + 1) ∨ (d2 = 10 ∧ st2 = 1 :: st ∧ 1 ≤ j ∧ km = kc)) → cq_D L K r ρ R z0 A0 P O E2 z2 A2 → sc_R K r R σ2 z2 A2 → cq_n r A2 R E2 0 → cq_M K r z A z2 A2 R → cv_w L K r c n T ps nt z2 A2 R kc → cq_A c n d2 st2 0 (ps kc) → mv + 1 = (j : Int) → x10 = (sp_ml l).1 → x12 = (sp_ml l).2 → (σ 0 0 ≤ σ2 0 0 ∧ (j : Int) + 1 ≤ σ2 0 0) → sp_r T (0, -1, k + 2, hz_s σ 0 2 (σ 0 2 + 1), (k, 63, 0, 0, -1, y2, y4, []) :: F9) (0, -1, km, σ2, (k, 63, 0, 0, mv, y2, y4, l) :: F9) → PP z2 A2 x9 x10 x12 x14 := by
    intro k0
    induction k0 with
    | zero =>
      intro j z2 A2 E2 d2 st2 kc km mv l σ2 x9 x10 x12 x14 hk0 e9 e14 b10 b12 hd D2 S2 N2 M2 w2 a2 hmv e10 e12 hnc hrun
      have q1 := S2.1 0 (by decide)
      have q2 := N2.2.2.2.2.2
      omega
    | succ k0 ih =>
      intro j z2 A2 E2 d2 st2 kc km mv l σ2 x9 x10 x12 x14 hk0 e9 e14 b10 b12 hd D2 S2 N2 M2 w2 a2 hmv e10 e12 hnc hrun
      refine hPP z2 A2 x9 x10 x12 x14 ⟨by omega, fun q => by omega, fun _ => ⟨X.1, X.2.1, (cq_w_b w2.1).2.1, fun q41 => fin j z2 A2 E2 d2 st2 kc km mv l σ2 x9 x10 x12 (by omega) e9 b10 b12 hd D2 S2 N2 M2 w2 a2 hmv e10 e12 hnc hrun q41, fun q41 => ?_⟩⟩
      have hd' : ¬ d2 = 10 ∨ ¬ st2 = [] := by
        rcases hd with ⟨hd, hs, -⟩ | ⟨hd, hs, -⟩
        · exact Or.inl (by omega)
        · exact Or.inr (by rw [hs]; simp)
      rw [w2.2.2.1] at q41
      refine cv_adv TK w2 a2 hd' (fun z3 d3 st3 e3 o3 hw3 s3 a3 => ?_)
      have s5 : d3 = 5 ∧ st3 = 1 :: st ∧ e3 = 0 ∧ sp_go T (0, -1, km, σ2, (k, 63, 0, 0, mv, y2, y4, l) :: F9) = sp_nx T σ2 (kc + 1) (k, 63, 0, 0, mv, y2, y4, l) F9 := by
        rcases hd with ⟨hd, hs, hj0, hkm⟩ | ⟨hd, hs, hj0, hkm⟩
        · rw [hd, hs] at s3
          obtain ⟨q1, q2, -, q4⟩ := cq_4 s3
          refine ⟨q4, q1, q2, ?_⟩
          show (if (0 : Int) = 0 then (if 0 ≤ mv then _ else sp_nx T σ2 km (k, 63, 0, 0, mv, y2, y4, l) F9) else _) = _
          rw [if_pos rfl, if_neg (by omega), hkm]
        · rw [hd, hs] at s3
          obtain ⟨q1, q2⟩ := cq_10 s3
          rcases q2 with ⟨qk, -⟩ | ⟨q44, q3, ⟨⟨t, ht⟩, -⟩ | ⟨-, q5⟩⟩
          · exact absurd qk q41
          · have h9 : (1 : Int) = 0 := List.head_eq_of_cons_eq ht
            omega
          · refine ⟨q5, q3, q1, ?_⟩
            show (if (0 : Int) = 0 then (if 0 ≤ mv then (if T.1 km = 44 then sp_nx T σ2 (km + 1) (k, 63, 0, 0, mv, y2, y4, l) F9 else _) else _) else _) = _
            rw [if_pos rfl, if_pos (by omega), hkm, if_pos q44]
      rw [s5.1, s5.2.1, s5.2.2.1] at a3
      have stp := s5.2.2.2
      have hrun' : ∀ s, sp_r T (sp_nx T σ2 (kc + 1) (k, 63, 0, 0, mv, y2, y4, l) F9) s → sp_r T (0, -1, k + 2, hz_s σ 0 2 (σ 0 2 + 1), (k, 63, 0, 0, -1, y2, y4, []) :: F9) s := fun s hs => sp_r_trans hrun (sp_r_step (by rw [stp]; exact hs))
      have nx : sp_nx T σ2 (kc + 1) (k, 63, 0, 0, mv, y2, y4, l) F9 = (if sp_fb T (kc + 1) = 0 ∨ sp_ft T (kc + 1) ≤ 0 ∨ sp_fb T (kc + 1) < sp_ft T (kc + 1) then sp_x 3 (T.2.1 (kc + 1)) else sp_bg T σ2 (sp_fe T (kc + 1) + 1) ((k, 63, 0, 0, mv + 1, y2, y4, (sp_rt T (kc + 1), sp_rb T (kc + 1)) :: l) :: F9) (sp_q (y2 * sp_rt T (kc + 1)) (sp_g (y2 * sp_rt T (kc + 1)) (y4 * sp_rb T (kc + 1)))) (sp_q (y4 * sp_rb T (kc + 1)) (sp_g (y2 * sp_rt T (kc + 1)) (y4 * sp_rb T (kc + 1))))) := if_pos rfl
      have of3 : ∀ a, a ≠ r R 2 → a ≠ R → z3 a = z2 a := fun a a1 _ => o3 a a1
      have D3 := cq_D_z X D2 of3
      refine wv_c5_goThroughFraction TK X D3.1 D3.2.1 hw3 a3 (Or.inr rfl) (fun z4 o4 hw4 a4 f8 f7 f78 g7 g8 nb nf => ⟨by decide, fun _ => ?_, fun q => absurd q (by decide)⟩) (fun z4 e e1 e0 why => ⟨by decide, fun q => absurd rfl q, fun _ => h0 z4 A2 e (hrun' _ (by rw [nx, if_pos (by omega), e1, e0]; exact sp_r_refl _ _))⟩)
      have nf := nf rfl
      rw [if_neg (by omega)] at nx
      refine cv_adv TK hw4 a4 (Or.inl (by decide)) (fun z5 d5 st5 e5 o5 hw5 s6 a5 => ?_)
      obtain ⟨q1, q2, q3⟩ := cq_9 s6
      rw [q1, q2, show d5 = 1 by omega] at a5
      have zR : z5 R = z4 R := o5 R (Ne.symm o.2.2.1)
      have of5 : ∀ a, a ≠ r R 2 → a ≠ R → z5 a = z2 a := fun a a1 a2 => by rw [o5 a a1, o4 a a1 a2]; exact o3 a a1
      have D5 := cq_D_z X D2 of5
      have S5 := sc_z X S2 of5
      have M5 : cq_M K r z A z5 A2 R := cq_M_trans M2 (cq_M_z X of5)
      have f78 := f78 rfl
      rw [← zR] at f8 f7 f78 g7 g8
      have j1 : ∀ y : Int, ((j + 1 : Nat) : Int) * y = (j : Int) * y + y := fun y => by
        rw [Int.natCast_add, Int.add_mul]
        show (j : Int) * y + 1 * y = _
        rw [Int.one_mul]
      have nxt9 : ∀ x10' x12' : Int, (0 ≤ x10' ∧ x10' ≤ 10000000000000) → (0 ≤ x12' ∧ x12' ≤ ((j + 1 : Nat) : Int) * x10') → x10' = (sp_ml ((sp_rt T (kc + 1), sp_rb T (kc + 1)) :: l)).1 → x12' = (sp_ml ((sp_rt T (kc + 1), sp_rb T (kc + 1)) :: l)).2 → wp_c5_goThroughDraw_154 L K N z5 r A2 R y1 y2 y4 y6 y7 x8 x9 x10' x12' x14 PP Q := by
        intro x10' x12' c10 c12 c10' c12'
        refine ⟨X.1, fun x15 e15 x17 e17 => ?_⟩
        have b1 : 0 ≤ y2 * z5 R 7 := Int.mul_nonneg hy.1 f78.1
        have b2 : y2 * z5 R 7 ≤ y4 * z5 R 8 := Int.mul_le_mul hy.2.1 f78.2 f78.1 (by omega)
        have b3 : y4 * z5 R 8 ≤ 1000000000 * 9999 := Int.mul_le_mul (by omega) f8.2 (by omega) (by omega)
        rw [← e15] at b1 b2
        rw [← e17] at b2 b3
        refine wv_c11_gcd (by omega) (by omega) (fun g eg g0 g1 _ _ => wq_c11_quotient (by omega) ⟨g0, g1⟩ (fun u u1 _ u3 u4 => wq_c11_quotient (by omega) ⟨g0, g1⟩ (fun v v1 _ v3 v4 => ?_)))
        have eu : u = sp_q (y2 * sp_rt T (kc + 1)) (sp_g (y2 * sp_rt T (kc + 1)) (y4 * sp_rb T (kc + 1))) := by rw [sp_q_of u3 u4 g0, eg, e15, e17, g7, g8]
        have ev : v = sp_q (y4 * sp_rb T (kc + 1)) (sp_g (y2 * sp_rt T (kc + 1)) (y4 * sp_rb T (kc + 1))) := by rw [sp_q_of v3 v4 g0, eg, e15, e17, g7, g8]
        rw [← eu, ← ev] at nx
        have u1 := u1 b1
        have v1 := v1 (by omega)
        have uv : u ≤ v := by
          by_cases hg : g = 0
          · have a1 := u4 hg
            have a2 := v4 hg
            omega
          · have a1 := u3 (by omega)
            have a2 := v3 (by omega)
            rw [a1, a2, Int.tdiv_eq_ediv_of_nonneg b1, Int.tdiv_eq_ediv_of_nonneg (by omega)]
            exact Int.ediv_le_ediv (by omega) b2
        refine hN z5 A2 P O E2 (1 :: st) 0 (sp_fe T (kc + 1) + 1) ((k, 63, 0, 0, mv + 1, y2, y4, (sp_rt T (kc + 1), sp_rb T (kc + 1)) :: l) :: F9) σ2 (y1 + 1) u v y6 y7 _ D5 S5 N2 hw5 a5 (by omega) (by rw [hln, List.length_cons]; omega) ⟨u1.1, uv, by omega⟩ (cq_d_mono h6 (M5 0 (by omega)).1 (M5 0 (by omega)).2 (fun _ h => h)) (cq_d_mono h7 (M5 1 (by omega)).1 (M5 1 (by omega)).2 (fun _ h => h)) (by rw [hd6, sp_dd_dr]) (by rw [hd7, sp_dd_dr]) (fun E' z' A' k' σ' D' S' N' M' w' a' hc' hr' => ⟨by decide, fun _ x9' e9' x14' e14' => ?_, fun q => absurd q (by decide)⟩) (fun z' A' e hr' => ⟨by decide, fun q => absurd rfl q, fun _ => h0 z' A' e (hrun' _ (by rw [nx]; exact hr'))⟩)
        exact ih (j + 1) z' A' E' 10 (1 :: st) k' k' (mv + 1) ((sp_rt T (kc + 1), sp_rb T (kc + 1)) :: l) σ' x9' x10' x12' x14' (by omega) (by omega) (by omega) c10 c12 (Or.inr ⟨rfl, rfl, by omega, rfl⟩) D' S' N' (cq_M_trans M5 M') w' a' (by omega) c10' c12' (by omega) (hrun' _ (by rw [nx]; exact hr'))
      refine ⟨by omega, fun q => nxt9 x10 x12 b10 ⟨b12.1, ?_⟩ (by rw [sp_ml_fr (by omega)]; exact e10) (by rw [sp_ml_fr (by omega)]; exact e12), fun q => ?_⟩
      · rw [j1]
        omega
      · have b1 : x10 * z5 R 8 ≤ 1000000000 * 9999 := Int.mul_le_mul (by omega) f8.2 (by omega) (by omega)
        refine wv_c11_lcm (M := 10000000000000) ⟨b10.1, by omega⟩ ⟨by omega, by omega⟩ (by omega) (by decide) (fun nl enl n0 n1 => wq_c11_quotient (by omega) ⟨b10.1, by omega⟩ (fun u u1 _ u3 u4 => wq_c11_quotient (by omega) ⟨by omega, by omega⟩ (fun v v1 _ v3 v4 x12' e12n => nxt9 nl x12' ⟨n0, n1⟩ ?_ (by rw [sp_ml_go (by omega)]; show nl = sp_l (sp_ml l).1 (sp_rb T (kc + 1)); rw [enl, e10, g8]) (by
          rw [sp_ml_go (by omega)]
          show x12' = (sp_ml l).2 * sp_q (sp_l (sp_ml l).1 (sp_rb T (kc + 1))) (sp_ml l).1 + sp_rt T (kc + 1) * sp_q (sp_l (sp_ml l).1 (sp_rb T (kc + 1))) (sp_rb T (kc + 1))
          rw [e12n, sp_q_of u3 u4 b10.1, sp_q_of v3 v4 (by omega), enl, g8, g7, e10, e12]))))
        have u1 := u1 n0
        have v1 := v1 n0
        have hu : x10 * u ≤ nl := by
          by_cases hx : x10 = 0
          · rw [hx, Int.zero_mul]
            exact n0
          · rw [u3 (by omega), Int.tdiv_eq_ediv_of_nonneg n0]
            have g1 := Int.mul_ediv_add_emod nl x10
            have g2 := Int.emod_nonneg nl hx
            omega
        have hv : z5 R 8 * v ≤ nl := by
          rw [v3 (by omega), Int.tdiv_eq_ediv_of_nonneg n0]
          have g1 := Int.mul_ediv_add_emod nl (z5 R 8)
          have g2 := Int.emod_nonneg nl (show z5 R 8 ≠ 0 by omega)
          omega
        have h7' : z5 R 7 * v ≤ z5 R 8 * v := Int.mul_le_mul_of_nonneg_right f78.2 v1.1
        have h8' : 0 ≤ z5 R 7 * v := Int.mul_nonneg f78.1 v1.1
        have h9' : 0 ≤ x12 * u := Int.mul_nonneg b12.1 u1.1
        have h10' : x12 * u ≤ (j : Int) * x10 * u := Int.mul_le_mul_of_nonneg_right b12.2 u1.1
        have h11' : (j : Int) * x10 * u = (j : Int) * (x10 * u) := Int.mul_assoc _ _ _
        have h12' : (j : Int) * (x10 * u) ≤ (j : Int) * nl := Int.mul_le_mul_of_nonneg_left hu (by omega)
        rw [j1 nl]
        exact ⟨by omega, by omega⟩
  exact key 400 0 z1 A1 E 4 st (k + 1) (k + 2) (-1) [] (hz_s σ 0 2 (σ 0 2 + 1)) 0 1 0 0 rfl rfl rfl (by decide) (by decide) (Or.inl ⟨rfl, rfl, rfl, rfl⟩) (cq_D_z X D1 of1) (sc_z X S1 of1) N2 (cq_M_trans M1 (cq_M_z X of1)) hw1 a1 rfl rfl rfl (by rw [nd0]; omega) (sp_r_refl _ _)
end CK
