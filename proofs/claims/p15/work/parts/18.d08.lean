section CK
variable {L : List Nat} {K : Nat → cw_K} {r : Nat → Nat → Nat} {z A : Nat → Nat → Int} {w : Nat → Nat × Nat} {ρ : Nat → Nat} {z0 A0 : Nat → Nat → Int} {R : Nat} {P : Nat → Int → Prop} {O : Nat → Nat → Prop} {E : Int} {c : Nat → Int} {n : Nat} {T : sp_T} {ps : Nat → Nat} {nt : Nat} {σ : Nat → Nat → Int}
theorem wv_c5_goThroughChoice {N : ((Nat → Nat → Int) → (Nat → Nat → Int) → Nat → Int → Int → Int → Int → Int → (Int → (Nat → Nat → Int) → (Nat → Nat → Int) → Prop) → Prop)} {m : Nat} {y1 y2 y4 y6 y7 e : Int} {st : List Int} {k : Nat} (F9 : List sp_F) (TK : tk_T c n T ps nt) (X : cq_X L K r w ρ R) (hN : cv_N L K r ρ R z0 A0 c n T ps nt N m) (D : cq_D L K r ρ R z0 A0 P O E z A) (S : sc_R K r R σ z A) (N1 : cq_n r A R E 1) (h : cv_w L K r c n T ps nt z A R k) (a : cq_A c n 1 st e (ps k)) (hk : ¬ T.1 k = 63 ∧ ¬ T.1 k = 91) (hln : y1 = (F9.length : Int)) (s1n : 1 ≤ σ 0 0) (hy1 : 0 ≤ y1 ∧ y1 ≤ 20 ∧ 21 ≤ y1 + (m : Int)) (hy : 0 ≤ y2 ∧ y2 ≤ y4 ∧ y4 ≤ 10000000000000) (h6 : cq_d r z A (cw_g K (r (r R 3) 1) 0) (P 0) y6) (h7 : cq_d r z A (cw_g K (r (r R 3) 1) 1) (P 1) y7) (hd6 : y6 = sp_dd 0 F9) (hd7 : y7 = sp_dd 1 F9) {Q : Int → (Nat → Nat → Int) → (Nat → Nat → Int) → Prop} (h1 : ∀ (E' : Int) (z' A' : Nat → Nat → Int) (k' : Nat) (σ' : Nat → Nat → Int), cq_D L K r ρ R z0 A0 P O E' z' A' → sc_R K r R σ' z' A' → cq_n r A' R E' 0 → cq_M K r z A z' A' R → cv_w L K r c n T ps nt z' A' R k' → cq_A c n 10 st 0 (ps k') → σ 0 0 ≤ σ' 0 0 → sp_r T (sp_bc T σ (if T.1 k = 65 then 0 else 1) k F9 y2 y4) (0, -1, k', σ', F9) → Q 1 z' A') (h0 : ∀ z' A', cq_E L K r ρ R z0 A0 z' A' → sp_r T (sp_bc T σ (if T.1 k = 65 then 0 else 1) k F9 y2 y4) (sp_x (z' R 1) (z' R 0)) → Q 0 z' A') : wp_c5_goThroughChoice L K N z r A R y1 y2 y4 y6 y7 Q := by
  obtain ⟨c1, c2, c3, c4⟩ := cq_wc X
  have o := cq_o3 X
  have hb := cq_w_b h.1
  have wk := h.2.2.1
  have wp := h.2.2.2.1
  have x4 := X.2.2.2.1
  have g7 := (X.2.2.2.2.2.2.2.2.2.2.1 _ x4).2.1
  have main : ∀ (t : Nat) (t0 x8 : Int), t < 2 → t0 = (t : Int) → (if T.1 k = 65 then 0 else 1) = t → hz_rI x8 → x8 = T.2.1 k → wp_c5_goThroughChoice_26 L K N z r A R y1 y2 y4 y6 y7 x8 t0 Q := by
    intro t t0 x8 ht et0 hkt rx8 e8
    rw [hkt] at h1 h0
    have et : t0.toNat = t := by omega
    have at66 : ∀ (z1 : Nat → Nat → Int) (dd : Int), (∀ a, a ≠ r R 2 → a ≠ R → z1 a = z a) → cv_w L K r c n T ps nt z1 A R (k + 1) → cq_A c n 2 st 0 (ps (k + 1)) → dd = sp_dd t F9 → cq_d r z1 A (cw_g K (r (r R 3) 1) t) (P t) dd → wp_c5_goThroughChoice_66 L K N z1 r A R y1 y2 y4 y6 y7 x8 t0 (cw_g K (r (r R 3) 1) t) dd y4 x8 (cw_g K (r (r R 3) 1) t) R Q := by
      intro z1 dd of1 hw1 a1 edd hdd
      have D1 := cq_D_z X D of1
      have S1 := sc_z X S of1
      have vv : z1 (r R 2) 4 = T.2.2 (k + 1) := hw1.2.2.2.2 (by
        obtain ⟨d', st', e', s⟩ := cv_s hw1 a1 (Or.inl (by decide))
        exact (cq_2 s).2.2.1)
      refine ⟨X.1, wv_c5_enterSet X D1 hw1.1.1 S1 ht rx8 (by omega) hdd (fun x z2 A2 hx hy4 D2 M2 ez eR ea eg how => ⟨by have := (D2.2.2.1 t ht).1; omega, fun _ => ⟨X.1, x4, c1, by omega, by omega, fun A3 e3 => ⟨X.2.1, ?_⟩⟩, fun q => by omega⟩) (fun z2 A2 e e0 why => ⟨by decide, fun q => absurd rfl q, fun _ => h0 z2 A2 e ?_⟩)⟩
      rotate_left
      · rw [vv, edd] at why
        rw [e0, e8]
        unfold sp_bc
        rcases why with ⟨y, why1, why2⟩ | ⟨y, why1, why2⟩ | ⟨y, why1, why2, why3⟩
        · rw [if_pos ⟨why1, why2⟩, y]
          exact sp_r_refl _ _
        · rw [if_neg why1, if_pos why2, y]
          exact sp_r_refl _ _
        · rw [if_neg (fun q => why1 q.1), if_neg why2, if_neg why1, if_neg why3, y]
          exact sp_r_refl _ _
      have hx10 : x < 10 := by have := (D2.2.2.1 t ht).1; omega
      have xx : ((x.toNat : Nat) : Int) = x := by omega
      obtain ⟨σ2, S2, bc, σ0⟩ : ∃ σ2, sc_R K r R σ2 z2 A2 ∧ sp_bc T σ t k F9 y2 y4 = (0, -1, k + 3, hz_s σ2 0 3 (σ2 0 3 + 1), (k, T.1 k, t, x.toNat, -1, y2, y4, []) :: F9) ∧ σ2 0 = σ 0 := by
        rw [vv, edd] at how
        rcases how with ⟨u1, u2, u3, u4⟩ | ⟨u1, u2, u3, u4⟩
        · refine ⟨σ, u4, ?_, rfl⟩
          unfold sp_bc
          rw [← u1, if_neg (fun q => u2 q.1), if_neg (by omega), if_neg u2, if_pos u3]
        · refine ⟨_, u4, ?_, sp_ns_o (by decide) (by omega) (by omega) (by omega) (by omega)⟩
          unfold sp_bc
          rw [u1, if_neg (fun q => by omega), if_neg (by omega), if_pos rfl, u3, sp_ns_o (q := 0) (by decide) (by omega) (by omega) (by omega) (by omega)]
      rw [bc] at h1 h0
      have w2 : cv_w L K r c n T ps nt z2 A2 R (k + 1) := cv_w_keep hw1 ez ea ⟨by rw [eR], by rw [eR]⟩
      have N2 : cq_n r A2 R E 1 := by
        unfold cq_n at N1 ⊢
        rw [eg]
        exact N1
      obtain ⟨N3, rv⟩ := cq_n_3 N2 e3
      obtain ⟨D3, M3, w3, S3⟩ := cv_cnt X D2 S2 w2 (show ¬ (3 : Int).toNat = 1 by decide) e3 rv
      have c3s : A2 (r (r R 3) 0) (3 : Int).toNat = σ2 0 3 := S2.1 3 (by decide)
      rw [c3s] at S3
      have nd0 : hz_s σ2 0 3 (σ2 0 3 + 1) 0 0 = σ 0 0 := by rw [hz_s_i (by decide), σ0]
      have M23 : cq_M K r z A z2 A3 R := cq_M_trans (cq_M_trans (cq_M_z X of1) M2) M3
      refine cv_adv TK w3 a1 (Or.inl (by decide)) (fun z4 d4 st4 e4 o4 hw4 s4 a4 => ?_)
      obtain ⟨q1, q2, q3, q4⟩ := cq_2 s4
      rw [q1, q2, q4] at a4
      have of4 : ∀ a, a ≠ r R 2 → a ≠ R → z4 a = z2 a := fun a a1 _ => o4 a a1
      have D4 := cq_D_z X D3 of4
      have S4 := sc_z X S3 of4
      have M4 : cq_M K r z A z4 A3 R := cq_M_trans M23 (cq_M_z X of4)
      have hx4 : x < z4 (cw_g K (r (r R 3) 1) t) 0 := by rw [of4 _ (o.2.2.2.2 t ht).2.2 (o.2.2.2.2 t ht).1]; exact hx.2
      intro PP hPP
      have fin : ∀ (j : Nat) (z5 A5 : Nat → Nat → Int) (E5 : Int) (km : Nat) (mv : Int) (σ5 : Nat → Nat → Int) (x12 : Int), 1 ≤ j → j ≤ 400 → x12 = (j : Int) → cq_D L K r ρ R z0 A0 (cq_P P t x (j : Int)) (cq_O O t x) E5 z5 A5 → sc_R K r R σ5 z5 A5 → cq_n r A5 R E5 0 → cq_M K r z A z5 A5 R → x < z5 (cw_g K (r (r R 3) 1) t) 0 → cv_w L K r c n T ps nt z5 A5 R km → cq_A c n 10 (0 :: st) 0 (ps km) → mv + 1 = (j : Int) → σ 0 0 ≤ σ5 0 0 → sp_r T (0, -1, k + 3, hz_s σ2 0 3 (σ2 0 3 + 1), (k, T.1 k, t, x.toNat, -1, y2, y4, []) :: F9) (0, -1, km, σ5, (k, T.1 k, t, x.toNat, mv, y2, y4, []) :: F9) → z5 (r R 2) 2 = 41 → wp_c5_goThroughChoice_198 L K N z5 r A5 R x8 (cw_g K (r (r R 3) 1) t) x x12 Q := by
        intro j z5 A5 E5 km mv σ5 x12 hj1 hj e12 D5 S5 N5 M5 hx5 w5 a5 hmv hnc hrun k41
        refine ⟨X.1, X.2.1, cv_adv TK w5 a5 (Or.inr (by simp)) (fun z6 d6 st6 e6 o6 hw6 s6 a6 => ?_)⟩
        have of6 : ∀ a, a ≠ r R 2 → a ≠ R → z6 a = z5 a := fun a a1 _ => o6 a a1
        have D6 := cq_D_z X D5 of6
        have S6 := sc_z X S5 of6
        have hx6 : x < z6 (cw_g K (r (r R 3) 1) t) 0 := by rw [of6 _ (o.2.2.2.2 t ht).2.2 (o.2.2.2.2 t ht).1]; exact hx5
        have k41' : T.1 km = 41 := by rw [← w5.2.2.1]; exact k41
        have stp : sp_go T (0, -1, km, σ5, (k, T.1 k, t, x.toNat, mv, y2, y4, []) :: F9) = sp_fi T σ5 km (k, T.1 k, t, x.toNat, mv, y2, y4, []) F9 := by
          show (if (0 : Int) = 0 then (if 0 ≤ mv then (if T.1 km = 44 then _ else _) else _) else _) = _
          rw [if_pos rfl, if_pos (by omega), if_neg (by rw [k41']; decide)]
        have fi : sp_fi T σ5 km (k, T.1 k, t, x.toNat, mv, y2, y4, []) F9 = (if 4 < mv + 1 then sp_x 2 (T.2.1 k) else if σ5 (12 + t) x.toNat = 0 then (0, -1, km + 1, hz_s σ5 (12 + t) ((x.toNat : Nat) : Int) (mv + 1), F9) else if σ5 (12 + t) x.toNat = mv + 1 then (0, -1, km + 1, σ5, F9) else sp_x 5 (T.2.1 k)) := if_neg hk.1
        have em : mv + 1 = x12 := by omega
        rw [xx, em] at fi
        rw [← e12] at D6
        refine wv_c5_endChoice X D6 hw6.1.1 S6 ht rx8 ⟨hx.1, hx6⟩ (by omega) (fun m4 A7 D7 M7 tx cn how => ⟨Or.inr rfl, ?_⟩) (fun z' A' e e0 why => ⟨Or.inl rfl, h0 z' A' e (sp_r_trans hrun (sp_r_step ?_))⟩)
        · obtain ⟨q1, q2⟩ := cq_10 s6
          rcases q2 with ⟨-, ⟨x', hx'⟩, qd⟩ | ⟨qk, -⟩
          · have hs3 : st = st6 := List.tail_eq_of_cons_eq hx'
            rw [← hs3, qd, q1] at a6
            have N7 : cq_n r A7 R E5 0 := by
              unfold cq_n at N5 ⊢
              rw [cn]
              exact N5
            rcases how with ⟨how1, how2⟩ | ⟨how1, how2, how3⟩
            · refine h1 E5 z6 A7 (km + 1) _ D7 how2 N7 (cq_M_trans (cq_M_trans M5 (cq_M_z X of6)) M7) (cv_w_keep hw6 rfl tx ⟨rfl, rfl⟩) a6 (by rw [hz_s_a (by omega)]; exact hnc) (sp_r_trans hrun (sp_r_step ?_))
              rw [stp, fi, if_neg (by omega), if_pos how1]
              exact sp_r_refl _ _
            · refine h1 E5 z6 A7 (km + 1) σ5 D7 how3 N7 (cq_M_trans (cq_M_trans M5 (cq_M_z X of6)) M7) (cv_w_keep hw6 rfl tx ⟨rfl, rfl⟩) a6 hnc (sp_r_trans hrun (sp_r_step ?_))
              rw [stp, fi, if_neg (by omega), if_neg how1, if_pos how2]
              exact sp_r_refl _ _
          · omega
        · rw [stp, fi, e0, e8]
          rcases why with ⟨y, why⟩ | ⟨y, why, why2, why3⟩
          · rw [if_pos why, y]
            exact sp_r_refl _ _
          · rw [if_neg why, if_neg why2, if_neg why3, y]
            exact sp_r_refl _ _
      have key : ∀ (k0 j : Nat) (z5 A5 : Nat → Nat → Int) (E5 d5 : Int) (st5 : List Int) (kc km : Nat) (mv : Int) (σ5 : Nat → Nat → Int) (x12 x13 : Int), j + k0 = 400 → x12 = (j : Int) → x13 = (j : Int) → ((d5 = 3 ∧ st5 = st ∧ j = 0 ∧ km = kc + 1) ∨ (d5 = 10 ∧ st5 = 0 :: st ∧ 1 ≤ j ∧ km = kc)) → cq_D L K r ρ R z0 A0 (cq_P P t x (j : Int)) (cq_O O t x) E5 z5 A5 → sc_R K r R σ5 z5 A5 → cq_n r A5 R E5 0 → cq_M K r z A z5 A5 R → x < z5 (cw_g K (r (r R 3) 1) t) 0 → cv_w L K r c n T ps nt z5 A5 R kc → cq_A c n d5 st5 0 (ps kc) → mv + 1 = (j : Int) → (σ 0 0 ≤ σ5 0 0 ∧ (j : Int) + 1 ≤ σ5 0 0) → sp_r T (0, -1, k + 3, hz_s σ2 0 3 (σ2 0 3 + 1), (k, T.1 k, t, x.toNat, -1, y2, y4, []) :: F9) (0, -1, km, σ5, (k, T.1 k, t, x.toNat, mv, y2, y4, []) :: F9) → PP z5 A5 x12 x13 := by
        intro k0
        induction k0 with
        | zero =>
          intro j z5 A5 E5 d5 st5 kc km mv σ5 x12 x13 hk0 e12 e13 hd D5 S5 N5 M5 hx5 w5 a5 hmv hnc hrun
          have q1 := S5.1 0 (by decide)
          have q2 := N5.2.2.2.2.2
          omega
        | succ k0 ih =>
          intro j z5 A5 E5 d5 st5 kc km mv σ5 x12 x13 hk0 e12 e13 hd D5 S5 N5 M5 hx5 w5 a5 hmv hnc hrun
          have wk5 := w5.2.2.1
          refine hPP z5 A5 x12 x13 ⟨by omega, fun q => by omega, fun _ => ⟨X.1, X.2.1, (cq_w_b w5.1).2.1, fun q41 => ?_, fun q41 => ?_⟩⟩
          · rcases hd with ⟨hd, hs, hj, hkm⟩ | ⟨hd, hs, hj, hkm⟩
            · obtain ⟨d', st', e', s⟩ := cv_s w5 a5 (Or.inl (by omega))
              rw [hd] at s
              obtain ⟨-, -, q, -⟩ := cq_3 s
              omega
            · rw [hd, hs] at a5
              subst hkm
              exact fin j z5 A5 E5 km mv σ5 x12 hj (by omega) e12 D5 S5 N5 M5 hx5 w5 a5 hmv hnc.1 hrun q41
          · rw [wk5] at q41
            have hd' : ¬ d5 = 10 ∨ ¬ st5 = [] := by
              rcases hd with ⟨hd, hs, hj, -⟩ | ⟨hd, hs, hj, -⟩
              · exact Or.inl (by omega)
              · exact Or.inr (by rw [hs]; simp)
            refine cv_adv TK w5 a5 hd' (fun z6 d6 st6 e6 o6 hw6 s6 a6 => ?_)
            have s1 : d6 = 1 ∧ st6 = 0 :: st ∧ e6 = 0 ∧ sp_go T (0, -1, km, σ5, (k, T.1 k, t, x.toNat, mv, y2, y4, []) :: F9) = sp_nx T σ5 (kc + 1) (k, T.1 k, t, x.toNat, mv, y2, y4, []) F9 := by
              rcases hd with ⟨hd, hs, hj, hkm⟩ | ⟨hd, hs, hj, hkm⟩
              · rw [hd, hs] at s6
                obtain ⟨q1, q2, -, q4⟩ := cq_3 s6
                refine ⟨q4, q1, q2, ?_⟩
                show (if (0 : Int) = 0 then (if 0 ≤ mv then _ else sp_nx T σ5 km (k, T.1 k, t, x.toNat, mv, y2, y4, []) F9) else _) = _
                rw [if_pos rfl, if_neg (by omega), hkm]
              · rw [hd, hs] at s6
                obtain ⟨q1, q2⟩ := cq_10 s6
                rcases q2 with ⟨qk, -⟩ | ⟨q44, q3, ⟨-, q5⟩ | ⟨⟨t, ht⟩, -⟩⟩
                · exact absurd qk q41
                · refine ⟨q5, q3, q1, ?_⟩
                  show (if (0 : Int) = 0 then (if 0 ≤ mv then (if T.1 km = 44 then sp_nx T σ5 (km + 1) (k, T.1 k, t, x.toNat, mv, y2, y4, []) F9 else _) else _) else _) = _
                  rw [if_pos rfl, if_pos (by omega), hkm, if_pos q44]
                · have h9 : (0 : Int) = 1 := List.head_eq_of_cons_eq ht
                  omega
            rw [s1.1, s1.2.1, s1.2.2.1] at a6
            have stp := s1.2.2.2
            have nx : sp_nx T σ5 (kc + 1) (k, T.1 k, t, x.toNat, mv, y2, y4, []) F9 = sp_bg T σ5 (kc + 1) ((k, T.1 k, t, x.toNat, mv + 1, y2, y4, []) :: F9) y2 y4 := if_neg hk.1
            have hrun' : ∀ s, sp_r T (sp_bg T σ5 (kc + 1) ((k, T.1 k, t, x.toNat, mv + 1, y2, y4, []) :: F9) y2 y4) s → sp_r T (0, -1, k + 3, hz_s σ2 0 3 (σ2 0 3 + 1), (k, T.1 k, t, x.toNat, -1, y2, y4, []) :: F9) s := fun s hs => sp_r_trans hrun (sp_r_step (by rw [stp, nx]; exact hs))
            have of6 : ∀ a, a ≠ r R 2 → a ≠ R → z6 a = z5 a := fun a a1 _ => o6 a a1
            have S6 := sc_z X S5 of6
            have D6 := cq_D_mono (P' := cq_P P t x ((j + 1 : Nat) : Int)) (O' := cq_O O t x) (cq_D_z X D5 of6) (fun t' d hp => by
              rcases hp with hp | ⟨u1, u2, u3⟩
              · exact Or.inl hp
              · exact Or.inr ⟨u1, u2, by omega⟩) (fun _ _ h => h)
            have M6 : cq_M K r z A z6 A5 R := cq_M_trans M5 (cq_M_z X of6)
            have hx6 : x < z6 (cw_g K (r (r R 3) 1) t) 0 := by rw [of6 _ (o.2.2.2.2 t ht).2.2 (o.2.2.2.2 t ht).1]; exact hx5
            have at168 : ∀ (da db : Int), cq_d r z6 A5 (cw_g K (r (r R 3) 1) 0) (cq_P P t x ((j + 1 : Nat) : Int) 0) da → cq_d r z6 A5 (cw_g K (r (r R 3) 1) 1) (cq_P P t x ((j + 1 : Nat) : Int) 1) db → da = sp_dd 0 ((k, T.1 k, t, x.toNat, mv + 1, y2, y4, []) :: F9) → db = sp_dd 1 ((k, T.1 k, t, x.toNat, mv + 1, y2, y4, []) :: F9) → wp_c5_goThroughChoice_168 L K N z6 r A5 R y1 y2 y4 y6 y7 x8 t0 (cw_g K (r (r R 3) 1) t) x x12 x13 da db PP Q := by
              intro da db ka kb eda edb
              refine ⟨X.1, hN z6 A5 (cq_P P t x ((j + 1 : Nat) : Int)) (cq_O O t x) E5 (0 :: st) 0 (kc + 1) ((k, T.1 k, t, x.toNat, mv + 1, y2, y4, []) :: F9) σ5 (y1 + 1) y2 y4 da db _ D6 S6 N5 hw6 a6 (by omega) (by rw [hln, List.length_cons]; omega) hy ka kb eda edb (fun E' z' A' k' σ' D' S' N' M' w' a' hc' hr' => ⟨by decide, fun _ x12' e12' x13' e13' => ?_, fun q => absurd q (by decide)⟩) (fun z' A' e hr' => ⟨by decide, fun q => absurd rfl q, fun _ => h0 z' A' e (hrun' _ hr')⟩)⟩
              exact ih (j + 1) z' A' E' 10 (0 :: st) k' k' (mv + 1) σ' x12' x13' (by omega) (by omega) (by omega) (Or.inr ⟨rfl, rfl, by omega, rfl⟩) D' S' N' (cq_M_trans M6 M') (by have := (M' t ht).1; omega) w' a' (by omega) (by omega) (hrun' _ hr')
            have kdeed : cq_d r z6 A5 (cw_g K (r (r R 3) 1) t) (cq_P P t x ((j + 1 : Nat) : Int) t) (x * 512 + x12) := Or.inr ⟨by omega, by omega, Or.inl (Or.inr ⟨rfl, by omega, by omega⟩)⟩
            have k6 : cq_d r z6 A5 (cw_g K (r (r R 3) 1) 0) (cq_P P t x ((j + 1 : Nat) : Int) 0) y6 := cq_d_mono h6 (M6 0 (by omega)).1 (M6 0 (by omega)).2 (fun _ h => Or.inl h)
            have k7 : cq_d r z6 A5 (cw_g K (r (r R 3) 1) 1) (cq_P P t x ((j + 1 : Nat) : Int) 1) y7 := cq_d_mono h7 (M6 1 (by omega)).1 (M6 1 (by omega)).2 (fun _ h => Or.inl h)
            have own : x * 512 + x12 = sp_dd t ((k, T.1 k, t, x.toNat, mv + 1, y2, y4, []) :: F9) := by
              rw [sp_dd_own hk.1, xx]
              omega
            refine wq_c7_deed ⟨hx.1, by omega⟩ (by omega) ⟨by omega, fun t1 => ⟨by omega, fun t2 => by omega, fun t2 => ?_⟩, fun t1 => ⟨by omega, fun t2 => ?_, fun t2 => by omega⟩⟩
            · have e1 : t = 1 := by omega
              subst e1
              exact at168 y6 _ k6 kdeed (by rw [hd6, sp_dd_ot (by decide)]) own
            · have e1 : t = 0 := by omega
              subst e1
              exact at168 _ y7 kdeed k7 own (by rw [hd7, sp_dd_ot (by decide)])
      exact key 400 0 z4 A3 E 3 st (k + 1 + 1) (k + 3) (-1) (hz_s σ2 0 3 (σ2 0 3 + 1)) 0 0 rfl rfl rfl (Or.inl ⟨rfl, rfl, rfl, rfl⟩) (cq_D_mono D4 (fun _ _ h => Or.inl h) (fun _ _ h => h)) S4 N3 M4 hx4 hw4 a4 rfl (by rw [nd0]; omega) (sp_r_refl _ _)
    refine ⟨X.1, x4, g7.1, by have := g7.2.1; omega, X.2.1, cv_adv TK h a (Or.inl (by decide)) (fun z1 d1 st1 e1 o1 hw1 s1 a1 => ?_)⟩
    obtain ⟨q1, q2⟩ := cq_1 s1
    rw [q1, show d1 = 2 by omega, show e1 = 0 by omega] at a1
    have of1 : ∀ a, a ≠ r R 2 → a ≠ R → z1 a = z a := fun a a1 _ => o1 a a1
    have M1 : cq_M K r z A z1 A R := cq_M_z X of1
    rw [et]
    refine ⟨by omega, fun t1 => ?_, fun t1 => ?_⟩
    · have e1 : t = 1 := by omega
      subst e1
      exact at66 z1 y7 of1 hw1 a1 hd7 (cq_d_mono h7 (M1 1 (by omega)).1 (M1 1 (by omega)).2 (fun _ h => h))
    · have e1 : t = 0 := by omega
      subst e1
      exact at66 z1 y6 of1 hw1 a1 hd6 (cq_d_mono h6 (M1 0 (by omega)).1 (M1 0 (by omega)).2 (fun _ h => h))
  exact ⟨X.1, X.2.1, fun x8 e8 => ⟨hb.2.1, fun q => main 1 1 x8 (by omega) rfl (if_neg (by rw [← wk]; exact q)) (by omega) (by rw [e8, wp]), fun q => main 0 0 x8 (by omega) rfl (if_pos (by rw [← wk]; exact q)) (by omega) (by rw [e8, wp])⟩⟩
theorem wv_c5_goThroughNode {N : ((Nat → Nat → Int) → (Nat → Nat → Int) → Nat → Int → Int → Int → Int → Int → (Int → (Nat → Nat → Int) → (Nat → Nat → Int) → Prop) → Prop)} {m : Nat} (TK : tk_T c n T ps nt) (X : cq_X L K r w ρ R) (hN : cv_N L K r ρ R z0 A0 c n T ps nt N m) : cv_N L K r ρ R z0 A0 c n T ps nt (fun z A y0 y1 y2 y4 y6 y7 Q => wp_c5_goThroughNode L K N z r A y0 y1 y2 y4 y6 y7 Q) (m + 1) := by
  intro z A P O E st e k F9 σ y1 y2 y4 y6 y7 Q D S N0 h a hy1 hln hy h6 h7 hd6 hd7 h1 h0
  obtain ⟨c1, c2, c3, c4⟩ := cq_wc X
  have hb := cq_w_b h.1
  have wk := h.2.2.1
  have wp := h.2.2.2.1
  have c0s : A (r (r R 3) 0) (0 : Int).toNat = σ 0 0 := S.1 0 (by decide)
  have no : sp_bg T σ k F9 y2 y4 = sp_x 2 (T.2.1 k) → wp_c5_goThroughNode_21 L K N z r A R Q := fun eq => ⟨X.1, X.2.1, wv_c5_refuse X D.1 D.2.1 h.1.1 (by decide) (by omega) (fun z' e e1 e0 => ⟨Or.inl rfl, h0 z' A e (by rw [eq, e1, e0, wp]; exact sp_r_refl _ _)⟩)⟩
  refine ⟨X.1, X.2.2.2.1, c1, by omega, (D.2.1.2 _).1 c1 _, fun l400 => no (by unfold sp_bg; rw [if_pos (by omega)]), fun l400 => ⟨by omega, fun l20 => ⟨by omega, by omega, fun A1 eA => ?_⟩, fun l20 => no (by unfold sp_bg; rw [if_neg (by omega), if_pos (by omega)])⟩⟩
  obtain ⟨N1, rv⟩ := cq_n_0 N0 l400 eA
  obtain ⟨D1, M1, w1, S1⟩ := cv_cnt X D S h (show ¬ (0 : Int).toNat = 1 by decide) eA rv
  rw [c0s] at S1
  have n0 : hz_s σ 0 0 (σ 0 0 + 1) 0 0 = σ 0 0 + 1 := hz_s_same 0 0 (σ 0 0 + 1)
  have nn : 0 ≤ σ 0 0 := by
    obtain ⟨g1, g2, g3, g4, g5, g6⟩ := N0
    have := S.1 0 (by decide)
    omega
  have k6 : cq_d r z A1 (cw_g K (r (r R 3) 1) 0) (P 0) y6 := cq_d_mono h6 (M1 0 (by omega)).1 (M1 0 (by omega)).2 (fun _ h => h)
  have k7 : cq_d r z A1 (cw_g K (r (r R 3) 1) 1) (P 1) y7 := cq_d_mono h7 (M1 1 (by omega)).1 (M1 1 (by omega)).2 (fun _ h => h)
  refine ⟨X.2.1, hb.2.1, fun k63 => ?_, fun n63 => ⟨fun k91 => ?_, fun n91 => ?_⟩⟩
  · rw [wk] at k63
    have bg : sp_bg T σ k F9 y2 y4 = sp_bd T (hz_s σ 0 0 (σ 0 0 + 1)) k F9 y2 y4 := by unfold sp_bg; rw [if_neg (by omega), if_neg (by omega), if_neg (by omega), if_pos k63]
    rw [bg] at h1 h0
    exact wv_c5_goThroughDraw F9 TK X hN D1 S1 N1 w1 a k63 hln (by omega) (by omega) hy k6 k7 hd6 hd7 (fun E' z' A' k' σ' D' S' N' M' w' a' hc' hr' => ⟨Or.inr rfl, h1 E' z' A' k' σ' D' S' N' (cq_M_trans M1 M') w' a' (by omega) hr'⟩) (fun z' A' e hr' => ⟨Or.inl rfl, h0 z' A' e hr'⟩)
  · rw [wk] at k91
    have bg : sp_bg T σ k F9 y2 y4 = sp_be T (hz_s σ 0 0 (σ 0 0 + 1)) k F9 y2 y4 := by unfold sp_bg; rw [if_neg (by omega), if_neg (by omega), if_pos k91]
    rw [bg] at h1 h0
    exact wv_c5_goThroughEnd F9 TK X D1 S1 N1 w1 a k91 hy k6 k7 hd6 hd7 (fun z' A' k' σ' D' S' N' M' w' a' hc' hr' => ⟨Or.inr rfl, h1 (E + 1) z' A' k' σ' D' S' N' (cq_M_trans M1 M') w' a' (by omega) (by rw [hr']; exact sp_r_refl _ _)⟩) (fun z' A' e hr' => ⟨Or.inl rfl, h0 z' A' e (by rw [hr']; exact sp_r_refl _ _)⟩)
  · rw [wk] at n63 n91
    have bg : sp_bg T σ k F9 y2 y4 = sp_bc T (hz_s σ 0 0 (σ 0 0 + 1)) (if T.1 k = 65 then 0 else 1) k F9 y2 y4 := by unfold sp_bg; rw [if_neg (by omega), if_neg (by omega), if_neg n91, if_neg n63]
    rw [bg] at h1 h0
    exact wv_c5_goThroughChoice F9 TK X hN D1 S1 N1 w1 a ⟨n63, n91⟩ hln (by omega) (by omega) hy k6 k7 hd6 hd7 (fun E' z' A' k' σ' D' S' N' M' w' a' hc' hr' => ⟨Or.inr rfl, h1 E' z' A' k' σ' D' S' N' (cq_M_trans M1 M') w' a' (by omega) hr'⟩) (fun z' A' e hr' => ⟨Or.inl rfl, h0 z' A' e hr'⟩)
theorem cv_node (TK : tk_T c n T ps nt) (X : cq_X L K r w ρ R) (m : Nat) : cv_N L K r ρ R z0 A0 c n T ps nt (wp_c5_node L K r m) m := by
  induction m with
  | zero =>
    intro z A P O E st e k F9 σ y1 y2 y4 y6 y7 Q D S N0 h a hy1
    omega
  | succ m ih => exact wv_c5_goThroughNode TK X ih
end CK
