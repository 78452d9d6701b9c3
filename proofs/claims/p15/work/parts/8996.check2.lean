theorem nu_cross {pt pb W D Tv Bv : Int} (h : nu_L pt pb W D) (hD : 0 < D) (e : W * Bv = Tv * D) : pt * Bv = Tv * pb := by
  obtain ⟨h1, h2, h3⟩ := h
  refine Int.eq_of_mul_eq_mul_left (show D ≠ 0 by omega) ?_
  have e1 : D * (pt * Bv) = (pt * D) * Bv := by rw [Int.mul_comm pt D, Int.mul_assoc]
  have e2 : D * (Tv * pb) = (Tv * D) * pb := by rw [Int.mul_comm Tv D, Int.mul_assoc]
  rw [e1, e2, h2, ← e, Int.mul_right_comm]
theorem nu_fit3 {c u : Int} (hc : 0 < c ∧ c < 4294967296) (u0 : 0 ≤ u) (hu : u ≤ cz_M) : c * u < 4294967296 ^ 32 := by
  have q0 : (0 : Int) < cz_M := cz_M_pos
  have q1 : c * u ≤ 4294967296 * cz_M := Int.mul_le_mul (by omega) hu u0 (by decide)
  have q2 : (4294967296 : Int) * cz_M < 4294967296 ^ 32 := by unfold cz_M; decide
  exact Int.lt_of_le_of_lt q1 q2
section CI
variable {L : List Nat} {K : Nat → cw_K} {r r' : Nat → Nat → Nat} {z A : Nat → Nat → Int} {w : Nat → Nat × Nat} {ρ : Nat → Nat} {S : Nat → Prop} {h g R : Nat} {σ Am : Nat → Nat → Int}
theorem nc_L {t : Nat} (t2 : t < 2) (Gx : sg_R K r (r h 13) σ z A) : rq_L (z (cw_g K (r (r h 13) 1) t) 0).toNat (z (cw_g K (r (r h 13) 1) t) 5) (A (r (cw_g K (r (r h 13) 1) t) 2)) (A (r (cw_g K (r (r h 13) 1) t) 6)) (A (r (cw_g K (r (r h 13) 1) t) 4)) (A (r (cw_g K (r (r h 13) 1) t) 7)) := by
  obtain ⟨⟨-, sh, sv⟩, sg⟩ := id Gx
  have sx := (sv.1 t t2).1
  rw [(sg t t2).1, (sh.1 t t2).1]
  exact rq_L_congr (sh_L t2 sv) (fun i hi => ((sg t t2).2 i (by omega)).2.1) (fun i hi => ((sh.1 t t2).2 i (by omega)).1) (fun i hi => ((sg t t2).2 i (by omega)).2.2.2) (fun i hi => ((sh.1 t t2).2 i (by omega)).2)
/-- the mix found for player p gets the value: a mix, and the best plan against it brings the value -/
noncomputable def nm_V (K : Nat → cw_K) (r : Nat → Nat → Nat) (h : Nat) (z A : Nat → Nat → Int) (p : Int) : Prop := nm_M K r z A (cw_g K (r h 6) p.toNat) (cw_g K (r (r h 13) 1) p.toNat) ∧ ∀ (W : Int) (k : Nat → Int), rb_B (z (cw_g K (r (r h 13) 1) (1 - p).toNat) 0).toNat (A (r (cw_g K (r (r h 13) 1) (1 - p).toNat) 2)) (fun x => rq_V (fun l => cg_d (1 - p) * cg_v K r z A (r h 13) (r (cw_g K (r h 6) p.toNat) 0) (1 - p) (z (cw_g K (r (r h 13) 1) (1 - (1 - p)).toNat) 5).toNat l) (A (r (cw_g K (r (r h 13) 1) (1 - p).toNat) 6)) x (rq_R (A (r (cw_g K (r (r h 13) 1) (1 - p).toNat) 4)) x (z (cw_g K (r (r h 13) 1) (1 - p).toNat) 0).toNat) (z (cw_g K (r (r h 13) 1) (1 - p).toNat) 0).toNat) k → cg_d (1 - p) * W = rq_V (fun l => cg_d (1 - p) * cg_v K r z A (r h 13) (r (cw_g K (r h 6) p.toNat) 0) (1 - p) (z (cw_g K (r (r h 13) 1) (1 - (1 - p)).toNat) 5).toNat l) (A (r (cw_g K (r (r h 13) 1) (1 - p).toNat) 6)) k (rq_R (A (r (cw_g K (r (r h 13) 1) (1 - p).toNat) 4)) k (z (cw_g K (r (r h 13) 1) (1 - p).toNat) 0).toNat) (z (cw_g K (r (r h 13) 1) (1 - p).toNat) 0).toNat → W * cb_v r z A (r (cw_g K (r h 9) 0) 1) = cb_v r z A (r (cw_g K (r h 9) 0) 0) * (z (r h 13) 2 * cb_v r z A (cw_g K (r (cw_g K (r h 6) p.toNat) 0) 0))
set_option maxHeartbeats 8000000 in
theorem wy_c11_getsValue {p : Int} (I : ci_I L K r w ρ z A h) (hp : p = 0 ∨ p = 1) (hg : z h 14 = 1) (Gx : sg_R K r (r h 13) σ z A) (hcm : 1 ≤ sp_cm σ (σ 0 1).toNat) (HV : nm_V K r h z A p) {Q : Int → (Nat → Nat → Int) → (Nat → Nat → Int) → Prop} (hQ : ∀ (z' A' : Nat → Nat → Int), ci_I L K r w ρ z' A' h → z' h = z h → z' (r (r h 0) 2) 1 = z (r (r h 0) 2) 1 → ci_E K r ρ h z A z' A' → nc_S K r h z A z' A' → (∀ i, i < 20 → ∀ t, t < 2 → cb_v r z' A' (cw_g K (r (cw_g K (r h 6) t) 0) i) = cb_v r z A (cw_g K (r (cw_g K (r h 6) t) 0) i)) → cF ρ (fun q => q = 7 + p.toNat ∨ q = 11 ∨ q = 16) z A z' A' → Q 1 z' A') : wp_c11_getsValue L K z r A h p Q := by
  obtain ⟨hdg, h1, h2, h3, h4, h6, h7, h8, h9⟩ := id I.1
  obtain ⟨⟨a1, a2⟩, -, ⟨c1, c2, c3⟩, -, -, -, -, ⟨i1, i2, i3⟩, -, ⟨k1, k2⟩, ⟨l1, l2, l3⟩, ⟨m1, m2⟩, -⟩ := id I.2.1
  have g := ci_g I
  obtain ⟨s1, s2, s3⟩ := ci_side (p := p + 1) I (by omega) hg
  rw [show p + 1 - 1 = p by omega] at s3
  obtain ⟨f1, f2⟩ := i3 p.toNat (by omega)
  have hF := I.2.2.2.2.2.1 hg
  have M := I.2.2.2.2.2.2.2.2.1 p.toNat (by omega)
  obtain ⟨-, ⟨t1, t2, t3⟩, -⟩ := h2 _ hF.1
  have sS := (t3 p.toNat (by omega)).2.2
  obtain ⟨Sa, hSa⟩ : ∃ Sa : Nat → Prop, Sa = fun q => q = 7 + p.toNat := ⟨_, rfl⟩
  have frame : ∀ (S9 : Nat → Prop) (z1 A1 : Nat → Nat → Int), (∀ q, S9 q → q = 7 + p.toNat ∨ q = 11 ∨ q = 16) → cF ρ S9 z A z1 A1 → cJ L K r z1 A1 → cm_M K r z1 A1 (r (cw_g K (r h 6) p.toNat) 0) cz_M → ci_I L K r w ρ z1 A1 h ∧ z1 h = z h ∧ z1 (r (r h 0) 2) 1 = z (r (r h 0) 2) 1 ∧ ci_E K r ρ h z A z1 A1 := by
    intro S9 z1 A1 hS9 F1 j1 M1
    have n : ∀ q, ¬ (q = 7 + p.toNat ∨ q = 11 ∨ q = 16) → ¬ S9 q := fun q hq s => hq (hS9 q s)
    refine ⟨ci_keep I F1 j1 (n _ (by omega)) (fun s => absurd s (n 0 (by omega))) (fun s => absurd s (n 1 (by omega))) (fun i hi s => absurd s (n _ (by omega))) (fun i hi s => absurd s (n _ (by omega))) (fun i hi s => ?_) (fun i hi s => ?_), (F1 h (n _ (by omega))).1, by rw [(F1 (r (r h 0) 2) (n _ (by omega))).1], ci_E_of I F1 (fun q hq => by have := hS9 q hq; omega) (fun y _ => by rw [(F1 h (n _ (by omega))).1]) (ci_k_of I F1 (fun q hq => by have := hS9 q hq; omega))⟩
    · have := hS9 _ s
      have : i = p.toNat := by omega
      rw [this]; exact M1
    · have := hS9 _ s
      omega
  refine ⟨a1, i1, by omega, hF.1, s1, by omega, f1, wy_c3_isMix (S := Sa) (M := cz_M) I.2.2.1 h1 h3 h7 f1 (by rw [hSa, f2]) s3 (by rw [hSa, sS]; show ¬ (ρ (r h 13) = 7 + p.toNat); omega) M (Int.le_of_lt cz_M_pos) cz_M_mix (fun x z1 A1 j1 F1 o1 oA1 hx => ⟨by omega, fun _ => ?_, fun c9 => ?_⟩)⟩
  · have M1 : cm_M K r z1 A1 (r (cw_g K (r h 6) p.toNat) 0) cz_M := by
      intro i hi
      obtain ⟨⟨y1, y2, y3, y4⟩, ⟨u1, u2, u3, u4⟩⟩ := h3 _ f1
      have gr : r (cw_g K (r h 6) p.toNat) 0 ≠ cw_g K (r h 6) p.toNat := Ne.symm (cw_OG_ne f1 y1)
      have ne : cw_g K (r (cw_g K (r h 6) p.toNat) 0) i ≠ r (cw_g K (r h 6) p.toNat) 1 := cg_ne (y4 i hi).2.2.1 u3 (fun e => gr e.1)
      rw [(cb_k_other I.2.2.1.1.1 u1 (y4 i hi).1 ne ⟨o1, oA1⟩).2.1]
      exact M i hi
    obtain ⟨I1, zh1, zw1, dd1⟩ := frame Sa z1 A1 (fun q hq => by rw [hSa] at hq; omega) F1 j1 M1
    have hg1 : z1 h 14 = 1 := by rw [zh1]; exact hg
    have hF1 := I1.2.2.2.2.2.1 hg1
    refine ⟨by omega, k1, ?_⟩
    have Gx1 : sg_R K r (r h 13) σ z1 A1 := sg_keepF h2 h7 hF.1 F1 (by rw [hSa]; show ¬ (ρ (r h 13) = 7 + p.toNat); omega) Gx
    refine wy_c6_work (S := fun q => q = 11) (M := cz_M) j1 hdg h1 h2 h3 h6 h7 k1 k2 hF1 (by show ¬ ρ (r h 13) = 11; omega) (by omega) f1 (by rw [f2]; omega) M1 (Int.le_of_lt cz_M_pos) cz_M_work (nc_L (t := (1 - p).toNat) (by omega) Gx1) (fun z2 A2 j2 F2 best2 worth2 => ?_)
    have M2 : cm_M K r z2 A2 (r (cw_g K (r h 6) p.toNat) 0) cz_M := by
      intro i hi
      obtain ⟨⟨y1, y2, y3, y4⟩, -⟩ := h3 _ f1
      rw [(cF_big h1 F2 (y4 i hi).1 (by rw [(y4 i hi).2.2.2, f2]; omega)).1]
      exact M1 i hi
    obtain ⟨⟨y1, y2, y3, y4⟩, -⟩ := h3 _ f1
    obtain ⟨-, -, ⟨n1, n2, n3, n4⟩, -, -⟩ := h6 _ k1
    refine wq_c6_worth h6 k1 ⟨by omega, y1, by omega, m1, ?_⟩
    show wp_c4_put L K z2 r A2 (r h 10) (cw_g K (r (r h 8) 2) 0) (cw_g K (r (cw_g K (r h 6) p.toNat) 0) 0) (z2 (r h 13) 2) _
    have lg := (j2.1.2 _ (n4 0 (by omega)).1).1
    have lp := (j2.1.2 _ (y4 0 (by omega)).1).1
    have ln := (n4 0 (by omega)).2.1
    have lq := (y4 0 (by omega)).2.1
    -- what is looked at is as it was
    have old1 : ∀ i, i < 20 → ∀ t, t < 2 → cb_v r z1 A1 (cw_g K (r (cw_g K (r h 6) t) 0) i) = cb_v r z A (cw_g K (r (cw_g K (r h 6) t) 0) i) := fun i hi t ht => by
      obtain ⟨⟨y1', y2', y3', y4'⟩, ⟨u1, u2, u3, u4⟩⟩ := h3 _ (i3 t ht).1
      obtain ⟨⟨y1'', y2'', y3'', y4''⟩, ⟨u1', u2', u3', u4'⟩⟩ := h3 _ f1
      have gr : r (cw_g K (r h 6) t) 0 ≠ cw_g K (r h 6) p.toNat := Ne.symm (cw_OG_ne f1 y1')
      have ne : cw_g K (r (cw_g K (r h 6) t) 0) i ≠ r (cw_g K (r h 6) p.toNat) 1 := cg_ne (y4' i hi).2.2.1 u3' (fun e => gr e.1)
      exact (cb_k_other I.2.2.1.1.1 u1' (y4' i hi).1 ne ⟨o1, oA1⟩).2.2
    have old2 : ∀ i, i < 20 → ∀ t, t < 2 → cb_v r z2 A2 (cw_g K (r (cw_g K (r h 6) t) 0) i) = cb_v r z A (cw_g K (r (cw_g K (r h 6) t) 0) i) := fun i hi t ht => by
      obtain ⟨⟨y1', y2', y3', y4'⟩, -⟩ := h3 _ (i3 t ht).1
      rw [(cF_big h1 F2 (y4' i hi).1 (by rw [(y4' i hi).2.2.2, (i3 t ht).2]; omega)).2.1]
      exact old1 i hi t ht
    have zg1 : z1 (r h 13) = z (r h 13) := (F1 _ (by rw [hSa]; show ¬ (ρ (r h 13) = 7 + p.toNat); omega)).1
    have zg2 : z2 (r h 13) = z (r h 13) := by rw [(F2 _ (by show ¬ ρ (r h 13) = 11; omega)).1, zg1]
    have ecm : z (r h 13) 2 = sp_cm σ (σ 0 1).toNat := Gx.1.2.1.2.2
    have cmr : 0 < z2 (r h 13) 2 ∧ z2 (r h 13) 2 < 4294967296 := by
      have q9 := hF.2.2.2.2
      rw [zg2]
      omega
    have pp : 0 < cb_v r z2 A2 (cw_g K (r (cw_g K (r h 6) p.toNat) 0) 0) := by rw [old2 0 (by omega) p.toNat (by omega)]; exact HV.1.2.2
    have sg0 : z2 (cw_g K (r (cw_g K (r h 6) p.toNat) 0) 0) 2 = 0 := nu_sg (j2.1.2 _ (y4 0 (by omega)).1) pp
    have pu : 0 < cb_u r z2 A2 (cw_g K (r (cw_g K (r h 6) p.toNat) 0) 0) := nu_up sg0 pp
    have fit := nu_fit3 cmr (cb_u_nn r z2 A2 (cw_g K (r (cw_g K (r h 6) p.toNat) 0) 0)) (M2 0 (by omega))
    -- the best plan's worth
    have zs1 : ∀ t, t < 2 → z1 (cw_g K (r (r h 13) 1) t) = z (cw_g K (r (r h 13) 1) t) := fun t ht => (F1 _ (by rw [hSa, (t3 t ht).2.2]; show ¬ (ρ (r h 13) = 7 + p.toNat); omega)).1
    have as1 : ∀ t, t < 2 → ∀ k, (k = 2 ∨ k = 4 ∨ k = 6) → A1 (r (cw_g K (r (r h 13) 1) t) k) = A (r (cw_g K (r (r h 13) 1) t) k) := fun t ht k hk => by
      obtain ⟨-, e2, -, e4, e6, e7⟩ := h7 _ (t3 t ht).1
      have rg : ρ (r (cw_g K (r (r h 13) 1) t) k) = ρ (r h 13) := by
        rcases hk with rfl | rfl | rfl
        · rw [e2.2.2.2, (t3 t ht).2.2]
        · rw [e4.2.2.2, (t3 t ht).2.2]
        · rw [e6.2.2.2, (t3 t ht).2.2]
      exact (F1 _ (by rw [rg, hSa]; show ¬ (ρ (r h 13) = 7 + p.toNat); omega)).2
    have nw1 : ∀ l j : Nat, l < 20 → j < 20 → cg_w K r A1 (r h 13) (1 - p) l j = cg_w K r A (r h 13) (1 - p) l j := fun l j hl hj => cg_w_keep h2 hF.1 F1 (by rw [hSa]; show ¬ (ρ (r h 13) = 7 + p.toNat); omega) hl hj
    have cv1 : ∀ l : Nat, l < 20 → cg_v K r z1 A1 (r h 13) (r (cw_g K (r h 6) p.toNat) 0) (1 - p) (z (cw_g K (r (r h 13) 1) (1 - (1 - p)).toNat) 5).toNat l = cg_v K r z A (r h 13) (r (cw_g K (r h 6) p.toNat) 0) (1 - p) (z (cw_g K (r (r h 13) 1) (1 - (1 - p)).toNat) 5).toNat l := fun l hl => by
      have l20 := (cg_F_side (q := 1 - (1 - p)) hF (by omega)).2.2.1
      refine cS_congr (fun j hj => ?_)
      show cg_w K r A1 (r h 13) (1 - p) l j * cb_v r z1 A1 (cw_g K (r (cw_g K (r h 6) p.toNat) 0) j) = cg_w K r A (r h 13) (1 - p) l j * cb_v r z A (cw_g K (r (cw_g K (r h 6) p.toNat) 0) j)
      rw [old1 j (by omega) p.toNat (by omega), nw1 l j hl (by omega)]
    rw [zs1 (1 - p).toNat (by omega), zs1 (1 - (1 - p)).toNat (by omega), as1 (1 - p).toNat (by omega) 2 (by omega), as1 (1 - p).toNat (by omega) 6 (by omega), as1 (1 - p).toNat (by omega) 4 (by omega)] at best2
    rw [zs1 (1 - p).toNat (by omega), zs1 (1 - (1 - p)).toNat (by omega), as1 (1 - p).toNat (by omega) 6 (by omega), as1 (1 - p).toNat (by omega) 4 (by omega)] at worth2
    have LQ := nc_L (t := (1 - p).toNat) (by omega) Gx
    have m20 := (cg_F_side (q := 1 - p) hF (by omega)).2.2.1
    have best3 := rb_B_congr (V' := fun x => rq_V (fun l => cg_d (1 - p) * cg_v K r z A (r h 13) (r (cw_g K (r h 6) p.toNat) 0) (1 - p) (z (cw_g K (r (r h 13) 1) (1 - (1 - p)).toNat) 5).toNat l) (A (r (cw_g K (r (r h 13) 1) (1 - p).toNat) 6)) x (rq_R (A (r (cw_g K (r (r h 13) 1) (1 - p).toNat) 4)) x (z (cw_g K (r (r h 13) 1) (1 - p).toNat) 0).toNat) (z (cw_g K (r (r h 13) 1) (1 - p).toNat) 0).toNat) (fun _ _ => rfl) (fun xx hxx => rq_V_congr LQ hxx (fun l hl => by rw [cv1 l (by omega)])) best2
    have worth3 := worth2.trans (rq_V_congr LQ best2.1 (fun l hl => by rw [cv1 l (by omega)]))
    have hW := HV.2 _ _ best3 worth3
    refine wz_c4_put (S := fun q => q = 16) j2 h1 h4 m1 m2 (n4 0 (by omega)).1 (y4 0 (by omega)).1 (by rw [(n4 0 (by omega)).2.2.2, k2, m2]; decide) (by rw [(y4 0 (by omega)).2.2.2, f2, m2]; omega) (by omega) (by omega) cmr sg0 pu fit (fun z3 A3 j3 F3 _ nl => ⟨l1, by omega, ?_⟩)
    refine wz_c4_order (S := fun q => q = 16) j3 h1 h4 m1 (l3 0 (by omega)).1 m2 (fun o z4 A4 j4 F4 ho ho0 _ _ _ _ => ?_)
    have F : cF ρ (fun q => q = 7 + p.toNat ∨ q = 11 ∨ q = 16) z A z4 A4 := cF_trans (cF_trans (cF_trans (cF_mono F1 (fun q hq => by rw [hSa] at hq; exact Or.inl hq)) (cF_mono F2 (fun q hq => Or.inr (Or.inl hq)))) (cF_mono F3 (fun q hq => Or.inr (Or.inr hq)))) (cF_mono F4 (fun q hq => Or.inr (Or.inr hq)))
    have M4 : cm_M K r z4 A4 (r (cw_g K (r h 6) p.toNat) 0) cz_M := by
      intro i hi
      rw [(cF_big h1 (cF_trans F3 F4) (y4 i hi).1 (by rw [(y4 i hi).2.2.2, f2]; omega)).1]
      exact M2 i hi
    obtain ⟨I4, zh4, zw4, dd4⟩ := frame _ z4 A4 (fun q hq => hq) F j4 M4
    have F03 : cF ρ (fun q => q = 7 + p.toNat ∨ q = 11 ∨ q = 16) z A z3 A3 := cF_trans (cF_trans (cF_mono F1 (fun q hq => by rw [hSa] at hq; exact Or.inl hq)) (cF_mono F2 (fun q hq => Or.inr (Or.inl hq)))) (cF_mono F3 (fun q hq => Or.inr (Or.inr hq)))
    have num3 := nc_keep I F03 (i := 0) (by omega) (by show ¬ (_ ∨ _ ∨ _); omega)
    have o0 : o = 0 := by
      refine ho0.mpr ?_
      rw [num3.1, num3.2]
      refine nu_cross nl (Int.mul_pos cmr.1 pp) ?_
      rw [old2 0 (by omega) p.toNat (by omega), zg2]
      exact hW
    have old4 : ∀ i, i < 20 → ∀ t, t < 2 → cb_v r z4 A4 (cw_g K (r (cw_g K (r h 6) t) 0) i) = cb_v r z A (cw_g K (r (cw_g K (r h 6) t) 0) i) := fun i hi t ht => by
      obtain ⟨⟨y1', y2', y3', y4'⟩, -⟩ := h3 _ (i3 t ht).1
      rw [(cF_big h1 (cF_trans F3 F4) (y4' i hi).1 (by rw [(y4' i hi).2.2.2, (i3 t ht).2]; omega)).2.1]
      exact old2 i hi t ht
    have num4 : nc_S K r h z A z4 A4 := fun i hi => by
      obtain ⟨q1, q2⟩ := nc_keep I F hi (by show ¬ (_ ∨ _ ∨ _); omega)
      exact ⟨by rw [(F _ (by rw [(l3 i hi).2]; show ¬ (_ ∨ _ ∨ _); omega)).1], q1, q2⟩
    exact ⟨by omega, fun c => absurd o0 c, fun _ => ⟨by omega, hQ z4 A4 I4 zh4 zw4 dd4 num4 old4 F⟩⟩
  · rcases hx with ⟨q1, q2⟩ | ⟨q1, q2⟩
    · exact absurd HV.1 q2
    · omega
end CI
