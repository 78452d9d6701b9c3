theorem sp_cm_stay {σ : Nat → Nat → Int} {n m : Nat} (h : 1000000000 ≤ sp_cm σ n) (hm : n ≤ m) : sp_cm σ m = sp_cm σ n := by
  induction m with
  | zero => rw [show n = 0 by omega]
  | succ m ih =>
    by_cases e : n = m + 1
    · rw [e]
    · have q := ih (by omega)
      simp only [sp_cm]
      rw [if_pos (by rw [q]; exact h), q]
theorem cPm_congr {f g : Nat → Int} {n : Nat} (h : ∀ i, i < n → f i = g i) : cPm f n = cPm g n := by
  induction n with
  | zero => rfl
  | succ n ih =>
    simp only [cPm]
    rw [ih (fun i hi => h i (by omega)), h n (by omega)]
/-- the game that a text tells -/
noncomputable def sp_G (T : sp_T) (σ : Nat → Nat → Int) : Prop := (∃ k, sp_ok T.1 k) ∧ ∃ k', sp_r T (sp_bg T (fun _ _ => 0) 0 [] 1 1) (0, -1, k', σ, []) ∧ sp_oc σ 0
theorem sp_G_R {T : sp_T} {σ : Nat → Nat → Int} (h : sp_G T σ) (n : Int) : sp_R T n 0 (-1) := by
  obtain ⟨⟨k, hk⟩, k', hr, oc⟩ := h
  exact Or.inr ⟨k, hk, Or.inr ⟨k', σ, hr, oc, Or.inl ⟨rfl, rfl⟩⟩⟩
theorem sp_G_uniq {T : sp_T} {σ σ' : Nat → Nat → Int} (h : sp_G T σ) (h' : sp_G T σ') : σ = σ' := by
  obtain ⟨-, k, hr, -⟩ := h
  obtain ⟨-, k', hr', -⟩ := h'
  have e := sp_r_uniq hr hr' (sp_rest_e T _ _ _ _) (sp_rest_e T _ _ _ _)
  exact congrArg (fun s => s.2.2.2.1) e
/-- a deed's line -/
noncomputable def cs_l (ln : Nat → Int) (d : Int) : Int := if d = -1 then 0 else ln (d / 512).toNat + d % 512
theorem cs_l_congr {ln ln' : Nat → Int} {d : Int} (h : d = -1 ∨ ln (d / 512).toNat = ln' (d / 512).toNat) : cs_l ln d = cs_l ln' d := by
  unfold cs_l
  by_cases c : d = -1
  · rw [if_pos c, if_pos c]
  · rw [if_neg c, if_neg c, h.resolve_left c]
/-- the first line of a set -/
noncomputable def sl_f (σ : Nat → Nat → Int) (t i : Nat) : Int := 1 + cS (σ (12 + t)) i
/-- the weight of lines i and j, from the first n ends -/
noncomputable def sh_w (σ : Nat → Nat → Int) (i j n : Nat) : Int := cS (fun e => if (i : Int) = cs_l (sl_f σ 0) (σ 22 e) ∧ (j : Int) = cs_l (sl_f σ 1) (σ 23 e) then sp_we σ e else 0) n
/-- lines and weights of game g are those of σ -/
noncomputable def sh_R (K : Nat → cw_K) (r : Nat → Nat → Nat) (g : Nat) (σ z A : Nat → Nat → Int) : Prop :=
  (∀ t, t < 2 → z (cw_g K (r g 1) t) 5 = sl_f σ t (σ 1 t).toNat ∧ ∀ i : Nat, (i : Int) < σ 1 t → A (r (cw_g K (r g 1) t) 6) i = sl_f σ t i ∧ A (r (cw_g K (r g 1) t) 7) i = cs_l (sl_f σ t) (σ (16 + t) i)) ∧ (∀ i j : Nat, i < 20 → j < 20 → A (cw_g K (r g 3) i) j = sh_w σ i j (σ 0 1).toNat) ∧ z g 2 = sp_cm σ (σ 0 1).toNat
/-- σ is a game's: sets, moves and deeds are in their bounds -/
noncomputable def sv_R (σ : Nat → Nat → Int) : Prop :=
  (∀ t, t < 2 → (0 ≤ σ 1 t ∧ σ 1 t ≤ 10) ∧ cS (σ (12 + t)) (σ 1 t).toNat ≤ 19 ∧ ∀ i : Nat, (i : Int) < σ 1 t → (1 ≤ σ (12 + t) i ∧ σ (12 + t) i ≤ 4) ∧ (σ (16 + t) i = -1 ∨ (0 ≤ σ (16 + t) i ∧ σ (16 + t) i / 512 < (i : Int) ∧ σ (16 + t) i % 512 < σ (12 + t) (σ (16 + t) i / 512).toNat))) ∧ (0 ≤ σ 0 1 ∧ σ 0 1 ≤ 400) ∧ ∀ t, t < 2 → ∀ e : Nat, (e : Int) < σ 0 1 → σ (22 + t) e = -1 ∨ (0 ≤ σ (22 + t) e ∧ σ (22 + t) e / 512 < σ 1 t ∧ σ (22 + t) e % 512 < σ (12 + t) (σ (22 + t) e / 512).toNat)
section CJ
variable {L : List Nat} {K : Nat → cw_K} {r : Nat → Nat → Nat} {z A : Nat → Nat → Int} {w : Nat → Nat × Nat} {ρ : Nat → Nat} {z0 A0 : Nat → Nat → Int} {R s : Nat} {E : Int}
theorem wz_c7_lineOfF {d : Int} (h7 : cg_7 L K r w ρ) (F : cs_F L K r z A s) (hd : cq_d r z A s (fun _ => False) d) {Q : Int → Prop} (hQ : ∀ l : Int, 0 ≤ l → l < 20 → l = cs_l (A (r s 6)) d → Q l) : wp_c7_lineOf L K z r A s d Q := by
  obtain ⟨f1, f2, f3, f4⟩ := F
  refine wq_c7_lineOf f1 h7 ?_ (fun d1 => hQ 0 (by decide) (by decide) (by unfold cs_l; rw [if_pos d1])) (fun d0 => ?_)
  · rcases hd with h | ⟨h, h', -⟩
    · exact Or.inl h
    · exact Or.inr ⟨h, by omega⟩
  · rcases hd with h | ⟨h, h', h'' | h''⟩
    · omega
    · exact h''.elim
    · obtain ⟨g1, g2, g3, g4⟩ := f4 (d / 512).toNat (by omega)
      exact hQ _ (by omega) (by omega) (by unfold cs_l; rw [if_neg (show ¬ d = -1 by omega)])
theorem wz_c7_numberLines (hs : cw_O L K 7 s) (hdg : ∀ a, cw_O L K 0 a → w (r a 0) = (a, 0)) (h7 : cg_7 L K r w ρ) (hJ : cJ L K r z A) (hz : 0 ≤ z s 0 ∧ z s 0 ≤ 10) (hm : ∀ i : Nat, (i : Int) < z s 0 → 1 ≤ A (r s 2) i ∧ A (r s 2) i ≤ 4) (hd : ∀ i : Nat, (i : Int) < z s 0 → A (r s 4) i = -1 ∨ (0 ≤ A (r s 4) i ∧ A (r s 4) i / 512 < (i : Int) ∧ A (r s 4) i % 512 < A (r s 2) (A (r s 4) i / 512).toNat)) (h19 : cS (A (r s 2)) (z s 0).toNat ≤ 19) {Q : (Nat → Nat → Int) → (Nat → Nat → Int) → Prop} (hQ : ∀ z' A' : Nat → Nat → Int, (∀ a, a ≠ s → z' a = z a) → z' s 0 = z s 0 → (∀ a, a ≠ r s 6 → a ≠ r s 7 → A' a = A a) → cJ L K r z' A' → cs_F L K r z' A' s → z' s 5 = 1 + cS (A (r s 2)) (z s 0).toNat → (∀ i : Nat, (i : Int) < z s 0 → A' (r s 6) i = 1 + cS (A (r s 2)) i ∧ A' (r s 7) i = cs_l (A' (r s 6)) (A (r s 4) i)) → Q z' A') : wp_c7_numberLines L K z r A s Q := by
  obtain ⟨⟨a1, a2, a3, a4⟩, ⟨b1, b2, b3, b4⟩, ⟨c1, c2, c3, c4⟩, ⟨e1, e2, e3, e4⟩, ⟨f1, f2, f3, f4⟩, ⟨g1, g2, g3, g4⟩⟩ := h7 s hs
  have n67 : r s 6 ≠ r s 7 := cg_ne f3 g3 (by simp)
  have n26 : r s 2 ≠ r s 6 := cg_ne b3 f3 (by simp)
  have n27 : r s 2 ≠ r s 7 := cg_ne b3 g3 (by simp)
  have n46 : r s 4 ≠ r s 6 := cg_ne e3 f3 (by simp)
  have n47 : r s 4 ≠ r s 7 := cg_ne e3 g3 (by simp)
  have dg6 := cg_dig hdg f3 hs (by decide)
  have dg7 := cg_dig hdg g3 hs (by decide)
  have sm : ∀ n : Nat, (n : Int) ≤ z s 0 → 0 ≤ cS (A (r s 2)) n ∧ cS (A (r s 2)) n ≤ 19 := by
    intro n hn
    have q1 := cS_nn (f := A (r s 2)) (n := n) (fun i hi => by have := hm i (by omega); omega)
    have q2 := cS_mono (f := A (r s 2)) (m := n) (n := (z s 0).toNat) (fun i hi => by have := hm i (by omega); omega) (by omega)
    omega
  refine ⟨hs, fun z1 ez1 => ?_⟩
  intro PP hPP
  have key : ∀ (k n : Nat) (z2 A2 : Nat → Nat → Int) (x : Int), n + (k : Int) = z s 0 → x = (n : Int) → (∀ a, a ≠ s → z2 a = z a) → z2 s 0 = z s 0 → z2 s 5 = 1 + cS (A (r s 2)) n → (∀ a, a ≠ r s 6 → a ≠ r s 7 → A2 a = A a) → cJ L K r z2 A2 → (∀ i : Nat, i < n → (1 ≤ A2 (r s 6) i ∧ A2 (r s 6) i + A (r s 2) i ≤ z2 s 5) ∧ (0 ≤ A2 (r s 7) i ∧ A2 (r s 7) i < A2 (r s 6) i)) → (∀ i : Nat, i < n → A2 (r s 6) i = 1 + cS (A (r s 2)) i ∧ A2 (r s 7) i = cs_l (A2 (r s 6)) (A (r s 4) i)) → PP z2 A2 x := by
    intro k
    induction k with
    | zero =>
      intro n z2 A2 x hk ex o2 s0 s5 oA J2 hi2 hx2
      have q := sm n (by omega)
      refine hPP z2 A2 x ⟨hs, by omega, by omega, fun _ => hQ z2 A2 o2 s0 oA J2 ⟨hs, by omega, by omega, fun i hi => ?_⟩ (by rw [s5, show (z s 0).toNat = n by omega]) (fun i hi => hx2 i (by omega)), fun c => by omega⟩
      have h1 := hi2 i (by omega)
      have h2 := hm i (by omega)
      have h3 := hd i (by omega)
      rw [oA _ n26 n27, oA _ n46 n47]
      refine ⟨h2, h1.1, h1.2, ?_⟩
      rcases h3 with h3 | ⟨h3, h4, h5⟩
      · exact Or.inl h3
      · have := hm (A (r s 4) i / 512).toNat (by omega)
        exact Or.inr ⟨h3, h4, by omega⟩
    | succ k ih =>
      intro n z2 A2 x hk ex o2 s0 s5 oA J2 hi2 hx2
      have q := sm n (by omega)
      have q1 := sm (n + 1) (by omega)
      have mn := hm n (by omega)
      have xn : x.toNat = n := by omega
      refine hPP z2 A2 x ⟨hs, by omega, by omega, fun c => by omega, fun _ => ⟨f1, by omega, fun A3 eA3 => ⟨b1, by omega, fun z3 ez3 => ⟨e1, by omega, ?_⟩⟩⟩⟩
      have m6 : A3 (r s 6) n = z2 s 5 := by
        have t := hz_s_same (A := A2) (r s 6) x (z2 s 5)
        rw [← eA3, xn] at t
        exact t
      have o6 : ∀ i : Nat, i ≠ n → A3 (r s 6) i = A2 (r s 6) i := fun i hi => by rw [eA3, hz_s_i (by omega)]
      have oB : ∀ a, a ≠ r s 6 → A3 a = A2 a := fun a ha => by rw [eA3, hz_s_a ha]
      have A32 : A3 (r s 2) = A (r s 2) := by rw [oB _ n26, oA _ n26 n27]
      have A34 : A3 (r s 4) = A (r s 4) := by rw [oB _ n46, oA _ n46 n47]
      have j3 : cJ L K r z2 A3 := by rw [eA3]; exact cJ_st J2 f1 dg6 ⟨fun _ => by omega, by omega, by omega, by omega⟩
      have zs5 : z3 s 5 = z2 s 5 + A (r s 2) n := by rw [ez3, cw_s_same, A32, xn]
      have cSn : cS (A (r s 2)) (n + 1) = cS (A (r s 2)) n + A (r s 2) n := rfl
      rw [A34, xn]
      have fin : ∀ v : Int, 0 ≤ v → v < z2 s 5 → v = cs_l (A3 (r s 6)) (A (r s 4) n) → cw_A L K 0 (r s 7) ∧ ((0 : Int) ≤ x ∧ x < (cw_n K (r s 7) : Int)) ∧ ∀ A_10 : Nat → Nat → Int, A_10 = hz_s A3 (r s 7) x v → ∀ x1_11 : Int, x1_11 = x + 1 → PP z3 A_10 x1_11 := by
        intro v v0 v1 v2
        refine ⟨g1, by omega, fun A4 eA4 x' ex' => ?_⟩
        have m7 : A4 (r s 7) n = v := by
          have t := hz_s_same (A := A3) (r s 7) x v
          rw [← eA4, xn] at t
          exact t
        have o7 : ∀ i : Nat, i ≠ n → A4 (r s 7) i = A2 (r s 7) i := fun i hi => by rw [eA4, hz_s_i (by omega), oB _ (Ne.symm n67)]
        have o46 : A4 (r s 6) = A3 (r s 6) := by rw [eA4, hz_s_a n67]
        have j4 : cJ L K r z2 A4 := by rw [eA4]; exact cJ_st j3 g1 dg7 ⟨fun _ => by omega, by omega, by omega, by omega⟩
        refine ih (n + 1) z3 A4 x' (by omega) (by omega) (fun a ha => by rw [ez3, cw_s_a ha]; exact o2 a ha) (by rw [ez3, cw_s_k (by decide)]; exact s0) (by omega) (fun a h6 h7 => by rw [eA4, hz_s_a h7, oB a h6]; exact oA a h6 h7) (cJ_z j4 (fun b hb => by rw [ez3, cw_s_a (cw_O_ne hb hs (by decide))])) (fun i hi => ?_) (fun i hi => by
          rw [o46]
          by_cases ei : i = n
          · rw [ei, m6, m7]
            exact ⟨s5, v2⟩
          · have q := hx2 i (by omega)
            rw [o6 i ei, o7 i ei]
            refine ⟨q.1, q.2.trans (cs_l_congr ?_)⟩
            rcases hd i (by omega) with e | ⟨e, e', -⟩
            · exact Or.inl e
            · exact Or.inr (o6 _ (by omega)).symm)
        rw [o46]
        by_cases ei : i = n
        · rw [ei, m6, m7]
          omega
        · have := hi2 i (by omega)
          rw [o6 i ei, o7 i ei]
          omega
      have dn := hd n (by omega)
      refine wq_c7_lineOf hs h7 (by omega) (fun d1 => fin 0 (by omega) (by omega) (by unfold cs_l; rw [if_pos d1])) (fun d0 => ?_)
      rcases dn with dn | ⟨dn, dl, dm⟩
      · omega
      · have h6 := hi2 (A (r s 4) n / 512).toNat (by omega)
        have e9 : A3 (r s 6) (A (r s 4) n / 512).toNat = A2 (r s 6) (A (r s 4) n / 512).toNat := o6 _ (by omega)
        refine fin _ (by rw [e9]; omega) (by rw [e9]; omega) ?_
        unfold cs_l
        rw [if_neg (show ¬ A (r s 4) n = -1 by omega)]
  refine key (z s 0).toNat 0 z1 A 0 ?_ rfl (fun a ha => by rw [ez1, cw_s_a ha]) (by rw [ez1, cw_s_k (by decide)]) (by rw [ez1, cw_s_same]; rfl) (fun _ _ _ => rfl) (cJ_z hJ (fun b hb => by rw [ez1, cw_s_a (cw_O_ne hb hs (by decide))])) (fun i hi => by omega) (fun i hi => by omega)
  omega
theorem wv_c5_findCommonNumber {σ : Nat → Nat → Int} (sE : σ 0 1 = E) (sB : ∀ j : Nat, (j : Int) < E → A (r R 10) j = σ 21 j) (X : cq_X L K r w ρ R) (J : cJ L K r z A) (hE : 0 ≤ E ∧ E ≤ 400) (hc : A (r (r R 3) 0) 1 = E) (he : ∀ j : Nat, (j : Int) < E → 0 ≤ A (r R 10) j) {Q : Int → (Nat → Nat → Int) → Prop} (hQ : ∀ (v : Int) (z' : Nat → Nat → Int), (v = 0 ∨ v = 1) → (∀ a, a ≠ r R 3 → z' a = z a) → (v = 1 → 0 ≤ z' (r R 3) 2 ∧ z' (r R 3) 2 < 1000000000) → (v = 1 → z' (r R 3) 2 = sp_cm σ (σ 0 1).toNat) → (v = 0 → 1000000000 ≤ sp_cm σ (σ 0 1).toNat) → Q v z') : wp_c5_findCommonNumber L K z r A R Q := by
  obtain ⟨c1, c2, c3, c4⟩ := cq_wc X
  have x4 := X.2.2.2.1
  have k10 := X.2.2.2.2.2.2.1
  have hc' : A (r (r R 3) 0) (1 : Int).toNat = E := hc
  refine ⟨X.1, x4, fun z1 e1 => ?_⟩
  intro PP hPP
  have key : ∀ (k j : Nat) (z2 : Nat → Nat → Int) (x : Int), j + (k : Int) = E → x = (j : Int) → (∀ a, a ≠ r R 3 → z2 a = z a) → (0 ≤ z2 (r R 3) 2 ∧ z2 (r R 3) 2 < 1000000000) → z2 (r R 3) 2 = sp_cm σ j → PP z2 x := by
    intro k
    induction k with
    | zero =>
      intro j z2 x hk ex o2 b2 ec
      exact hPP z2 x ⟨X.1, x4, c1, by omega, by omega, by omega, fun _ => hQ 1 z2 (Or.inr rfl) o2 (fun _ => b2) (fun _ => by rw [ec, show (σ 0 1).toNat = j by omega]) (fun q => by omega), fun q => by omega⟩
    | succ k ih =>
      intro j z2 x hk ex o2 b2 ec
      have xn : x.toNat = j := by omega
      have hb := he j (by omega)
      have rb := (J.2 _).2.1 k10.1 j
      have sb := sB j (by omega)
      have big : 1000000000 ≤ sp_cm σ (j + 1) → 1000000000 ≤ sp_cm σ (σ 0 1).toNat := fun q => by rw [sp_cm_stay q (by omega)]; exact q
      rw [← xn] at hb rb
      have l10 := k10.2.1
      refine hPP z2 x ⟨X.1, x4, c1, by omega, by omega, by omega, fun q => by omega, fun _ => ⟨k10.1, by omega, rb, fun lt => ⟨by omega, ?_⟩, fun lg => hQ 0 z2 (Or.inl rfl) o2 (fun q => by omega) (fun q => by omega) (fun _ => big (by simp only [sp_cm]; rw [← ec, if_neg (by omega), if_pos (by rw [← sb, ← xn]; omega)]; decide))⟩⟩
      have b3 : z2 (r R 3) 2 * A (r R 10) x.toNat ≤ 1000000000 * 1000000000 := Int.mul_le_mul (by omega) (by omega) hb (by omega)
      refine wv_c11_lcm (M := 1000000000000000000) ⟨b2.1, by omega⟩ ⟨hb, by omega⟩ (by omega) (by decide) (fun v ev v0 v1 z3 e3 => ?_)
      have ec1 : v = sp_cm σ (j + 1) := by
        simp only [sp_cm]
        rw [← ec, ← sb, if_neg (by omega), if_neg (by rw [← xn]; omega), ev, xn]
      have f3 : z3 (r R 3) 2 = v := by rw [e3, cw_s_same]
      have o3 : ∀ a, a ≠ r R 3 → z3 a = z a := fun a ha => by rw [e3, cw_s_a ha]; exact o2 a ha
      exact ⟨by omega, fun lt2 x' ex' => ih (j + 1) z3 x' (by omega) (by omega) o3 (by omega) (by rw [f3]; exact ec1), fun lg => hQ 0 z3 (Or.inl rfl) o3 (fun q => by omega) (fun q => by omega) (fun _ => big (by rw [← ec1]; omega))⟩
  have f1 : z1 (r R 3) 2 = 1 := by rw [e1, cw_s_same]
  exact key E.toNat 0 z1 0 (by omega) rfl (fun a ha => by rw [e1, cw_s_a ha]) (by omega) f1
theorem wv_c5_fillWeights {σ : Nat → Nat → Int} (sE : σ 0 1 = E) (sB : ∀ j : Nat, (j : Int) < E → A (r R 9) j = σ 20 j ∧ A (r R 10) j = σ 21 j) (sC : z (r R 3) 2 = sp_cm σ (σ 0 1).toNat) (sD : ∀ j : Nat, (j : Int) < E → A (r R 11) j = σ 22 j ∧ A (r R 12) j = σ 23 j) (sl : ∀ t, t < 2 → ∀ i : Nat, (i : Int) < z (cw_g K (r (r R 3) 1) t) 0 → A (r (cw_g K (r (r R 3) 1) t) 6) i = sl_f σ t i) (X : cq_X L K r w ρ R) (J : cJ L K r z A) (hE : 0 ≤ E ∧ E ≤ 400) (hc : A (r (r R 3) 0) 1 = E) (he : cq_e K r z A R (fun _ _ => False) E) (h0 : cq_0 K r A R) (F0 : cs_F L K r z A (cw_g K (r (r R 3) 1) 0)) (F1 : cs_F L K r z A (cw_g K (r (r R 3) 1) 1)) (hcm : 0 ≤ z (r R 3) 2 ∧ z (r R 3) 2 < 1000000000) {Q : Int → (Nat → Nat → Int) → Prop} (hQ : ∀ (v : Int) (A' : Nat → Nat → Int), (v = 0 ∨ v = 1) → cJ L K r z A' → (∀ a, (∀ i, i < 20 → a ≠ cw_g K (r (r R 3) 3) i) → A' a = A a) → (v = 1 → cg_W K r A' (r R 3) ≤ 400000000000) → (v = 1 → ¬ sp_wl σ) → (v = 0 → sp_wl σ) → (v = 1 → ∀ i j : Nat, i < 20 → j < 20 → A' (cw_g K (r (r R 3) 3) i) j = sh_w σ i j (σ 0 1).toNat) → Q v A') : wp_c5_fillWeights L K z r A R Q := by
  obtain ⟨c1, c2, c3, c4⟩ := cq_wc X
  obtain ⟨x1, x2, x3, x4, g4, ⟨k9, l9, w9, v9⟩, ⟨k10, l10, w10, v10⟩, ⟨k11, l11, w11, v11⟩, ⟨k12, l12, w12, v12⟩, x10, x11, x12⟩ := id X
  have o := cq_o3 X
  have g7 := (x11 _ x4).2.1
  have g10 := (x11 _ x4).2.2
  have hc' : A (r (r R 3) 0) (1 : Int).toNat = E := hc
  have nR : ∀ k, (k = 9 ∨ k = 10 ∨ k = 11 ∨ k = 12) → ∀ i, i < 20 → r R k ≠ cw_g K (r (r R 3) 3) i := fun k hk i hi => cg_ne (cq_wr X hk).1 (cq_ww X hi).2.2.1 (fun e => o.1 _ _ x1 e.1)
  have nC : ∀ i, i < 20 → r (r R 3) 0 ≠ cw_g K (r (r R 3) 3) i := fun i hi => cg_ne c3 (cq_ww X hi).2.2.1 (fun e => o.1 _ _ x4 e.1)
  have nS : ∀ t k, t < 2 → (k = 1 ∨ k = 2 ∨ k = 3 ∨ k = 4 ∨ k = 6 ∨ k = 7) → ∀ i, i < 20 → r (cw_g K (r (r R 3) 1) t) k ≠ cw_g K (r (r R 3) 3) i := fun t k ht hk i hi => Ne.symm ((cq_apart X ht hk).2.1 i hi)
  have W0 : cg_W K r A (r R 3) = 0 := by
    have e : cg_W K r A (r R 3) = cS (fun _ => cS (fun _ => 0) 20) 20 := cS_congr (fun i hi => cS_congr (fun j hj => by
      show ((A (cw_g K (r (r R 3) 3) i) j).natAbs : Int) = 0
      rw [h0 i j hi hj]
      rfl))
    rw [e]
    decide
  intro PP hPP
  have key : ∀ (k j : Nat) (A1 : Nat → Nat → Int) (x : Int), j + (k : Int) = E → x = (j : Int) → cJ L K r z A1 → (∀ a, (∀ i, i < 20 → a ≠ cw_g K (r (r R 3) 3) i) → A1 a = A a) → cg_W K r A1 (r R 3) ≤ (j : Int) * 1000000000 → (∀ i : Nat, i < j → ((sp_we σ i).natAbs : Int) < 1000000000) → (∀ i j' : Nat, i < 20 → j' < 20 → A1 (cw_g K (r (r R 3) 3) i) j' = sh_w σ i j' j) → PP A1 x := by
    intro k
    induction k with
    | zero =>
      intro j A1 x hk ex J1 fr hW hwe hsw
      have hc1 : A1 (r (r R 3) 0) (1 : Int).toNat = E := by rw [fr _ nC]; exact hc'
      exact hPP A1 x ⟨x1, x4, c1, by omega, by omega, by omega, fun _ => hQ 1 A1 (Or.inr rfl) J1 fr (fun _ => by omega) (fun _ q => by obtain ⟨i, i1, i2⟩ := q; have := hwe i (by omega); omega) (fun q => by omega) (fun _ i j' hi hj' => by rw [hsw i j' hi hj', show (σ 0 1).toNat = j by omega]), fun q => by omega⟩
    | succ k ih =>
      intro j A1 x hk ex J1 fr hW hwe hsw
      have xn : x.toNat = j := by omega
      have hc1 : A1 (r (r R 3) 0) (1 : Int).toNat = E := by rw [fr _ nC]; exact hc'
      obtain ⟨⟨e1, e2⟩, e3, e4⟩ := he j (by omega)
      have q10 : A1 (r R 10) x.toNat = A (r R 10) j := by rw [fr _ (nR 10 (by omega)), xn]
      have q9 : A1 (r R 9) x.toNat = A (r R 9) j := by rw [fr _ (nR 9 (by omega)), xn]
      have q11 : A1 (r R 11) x.toNat = A (r R 11) j := by rw [fr _ (nR 11 (by omega)), xn]
      have q12 : A1 (r R 12) x.toNat = A (r R 12) j := by rw [fr _ (nR 12 (by omega)), xn]
      have rb := (J.2 _).2.1 k10 j
      have FF : ∀ t, t < 2 → cs_F L K r z A (cw_g K (r (r R 3) 1) t) → cs_F L K r z A1 (cw_g K (r (r R 3) 1) t) := by
        intro t ht F
        unfold cs_F at F ⊢
        rw [fr _ (nS t 2 ht (by omega)), fr _ (nS t 4 ht (by omega)), fr _ (nS t 6 ht (by omega)), fr _ (nS t 7 ht (by omega))]
        exact F
      have dd : ∀ t, t < 2 → ∀ d, cq_d r z A (cw_g K (r (r R 3) 1) t) (fun _ => False) d → cq_d r z A1 (cw_g K (r (r R 3) 1) t) (fun _ => False) d := by
        intro t ht d hd
        unfold cq_d at hd ⊢
        rw [fr _ (nS t 2 ht (by omega))]
        exact hd
      refine hPP A1 x ⟨x1, x4, c1, by omega, by omega, by omega, fun q => by omega, fun _ => ⟨k10, by omega, ?_⟩⟩
      rw [q10, q9, q11, q12]
      refine wq_c11_quotient (by omega) ⟨e1, by omega⟩ (fun u u1 _ u3 u4 => ⟨k9, by omega, fun x2 ex2 => ?_⟩)
      have ewe : x2 = sp_we σ j := by
        obtain ⟨g1, g2⟩ := sB j (by omega)
        rw [ex2, sp_q_of u3 u4 e1]
        unfold sp_we
        rw [← sC, ← g1, ← g2]
      have u1 := u1 hcm.1
      have ub : A (r R 10) j * u ≤ 1000000000 := by
        by_cases hb : A (r R 10) j = 0
        · rw [hb, Int.zero_mul]
          decide
        · rw [u3 (by omega), Int.tdiv_eq_ediv_of_nonneg hcm.1]
          have t1 := Int.mul_ediv_add_emod (z (r R 3) 2) (A (r R 10) j)
          have t2 := Int.emod_nonneg (z (r R 3) 2) hb
          omega
      have p1 : (x2.natAbs : Int) = u * ((A (r R 9) j).natAbs : Int) := by rw [ex2, Int.natAbs_mul, Int.natCast_mul, show (u.natAbs : Int) = u by omega]
      have p2 : u * ((A (r R 9) j).natAbs : Int) ≤ u * (9999 * A (r R 10) j) := Int.mul_le_mul_of_nonneg_left e2 u1.1
      have p3 : u * (9999 * A (r R 10) j) = 9999 * (A (r R 10) j * u) := by grind
      have p4 : (x2.natAbs : Int) ≤ 9999000000000 := by
        rw [p1]
        rw [p3] at p2
        omega
      refine ⟨by omega, by omega, fun x9 ex9 => ⟨by omega, fun lt => ⟨g7.1, by have := g7.2.1; omega, k11, by omega, (cq_side X (t := 0) (by omega)).1, ?_⟩, fun lg => hQ 0 A1 (Or.inl rfl) J1 fr (fun q => by omega) (fun q => by omega) (fun _ => ⟨j, by omega, by rw [← ewe]; omega⟩) (fun q => by omega)⟩⟩
      refine wz_c7_lineOfF x12 (FF 0 (by omega) F0) (dd 0 (by omega) _ e3) (fun la la0 la1 la2 => ⟨by have := g7.2.1; omega, k12, by omega, (cq_side X (t := 1) (by omega)).1, ?_⟩)
      refine wz_c7_lineOfF x12 (FF 1 (by omega) F1) (dd 1 (by omega) _ e4) (fun lb lb0 lb1 lb2 => ?_)
      obtain ⟨sd1, sd2⟩ := sD j (by omega)
      have val : ∀ t, t < 2 → ∀ d : Int, cq_d r z A (cw_g K (r (r R 3) 1) t) (fun _ => False) d → cs_l (A1 (r (cw_g K (r (r R 3) 1) t) 6)) d = cs_l (sl_f σ t) d := by
        intro t ht d hd
        refine cs_l_congr ?_
        rw [fr _ (nS t 6 ht (by omega))]
        rcases hd with hd | ⟨h0', h1', -⟩
        · exact Or.inl hd
        · exact Or.inr (sl t ht _ (by omega))
      have ela : la = cs_l (sl_f σ 0) (σ 22 j) := by rw [la2, val 0 (by omega) _ e3, sd1]
      have elb : lb = cs_l (sl_f σ 1) (σ 23 j) := by rw [lb2, val 1 (by omega) _ e4, sd2]
      obtain ⟨y1, y2, y3, y4⟩ := cq_ww X (i := la.toNat) (by omega)
      refine ⟨g10.1, by have := g10.2.1; omega, y1, by omega, by omega, fun A2 eA2 x' ex' => ?_⟩
      have cell := cg_W_le (K := K) (r := r) (A := A1) (g := r R 3) (i := la.toNat) (j := lb.toNat) (by omega) (by omega)
      have J2 : cJ L K r z A2 := by
        rw [eA2]
        exact cJ_st J1 y1 (fun b hb => cg_ne (x10 b hb) y3 (fun e => o.1 _ _ hb e.1)) ⟨by omega, fun _ => by omega, by omega, by omega⟩
      refine ih (j + 1) A2 x' (by omega) (by omega) J2 (fun a ha => by rw [eA2, hz_s_a (ha _ (by omega))]; exact fr a ha) ?_ (fun i hi => by
        by_cases ei : i = j
        · rw [ei, ← ewe]; omega
        · exact hwe i (by omega)) (fun i j' hi hj' => ?_)
      have up : cg_W K r A2 (r R 3) ≤ cg_W K r A1 (r R 3) + (x2.natAbs : Int) := by
        refine cS_upd (i := la.toNat) (by omega) (fun k hk hne => cS_congr (fun j hj => ?_)) (cS_upd (i := lb.toNat) (by omega) (fun k hk hne => ?_) ?_)
        · show ((A2 (cw_g K (r (r R 3) 3) k) j).natAbs : Int) = ((A1 (cw_g K (r (r R 3) 3) k) j).natAbs : Int)
          rw [eA2, hz_s_a (cg_ne (cq_ww X hk).2.2.1 y3 (fun e => hne e.2))]
        · show ((A2 (cw_g K (r (r R 3) 3) la.toNat) k).natAbs : Int) = ((A1 (cw_g K (r (r R 3) 3) la.toNat) k).natAbs : Int)
          rw [eA2, hz_s_i hne]
        · show ((A2 (cw_g K (r (r R 3) 3) la.toNat) lb.toNat).natAbs : Int) ≤ ((A1 (cw_g K (r (r R 3) 3) la.toNat) lb.toNat).natAbs : Int) + (x2.natAbs : Int)
          rw [eA2, hz_s_same]
          omega
      omega
      show A2 (cw_g K (r (r R 3) 3) i) j' = sh_w σ i j' j + (if (i : Int) = cs_l (sl_f σ 0) (σ 22 j) ∧ (j' : Int) = cs_l (sl_f σ 1) (σ 23 j) then sp_we σ j else 0)
      rw [← ela, ← elb, ← hsw i j' hi hj']
      by_cases ci : i = la.toNat
      · by_cases cj : j' = lb.toNat
        · rw [if_pos ⟨by omega, by omega⟩, ci, cj, eA2, hz_s_same]
          omega
        · rw [if_neg (fun q => cj (by omega)), ci, eA2, hz_s_i cj]
          omega
      · rw [if_neg (fun q => ci (by omega)), eA2, hz_s_a (cg_ne (cq_ww X hi).2.2.1 y3 (fun e => ci e.2))]
        omega
  exact key E.toNat 0 A 0 (by omega) rfl J (fun _ _ => rfl) (by rw [W0]; decide) (fun i hi => by omega) (fun i j' hi hj' => h0 i j' hi hj')
theorem wv_c5_finish {σ : Nat → Nat → Int} (S : sc_R K r R σ z A) (X : cq_X L K r w ρ R) (D : cq_D L K r ρ R z0 A0 (fun _ _ => False) (fun _ _ => False) E z A) (N : cq_n r A R E 0) (T : cl_T L K r z A (r R 2)) {Q : (Nat → Nat → Int) → (Nat → Nat → Int) → Prop} (h1 : ∀ z' A', cF ρ (cq_r r ρ R) z0 A0 z' A' → cJ L K r z' A' → cl_T L K r z' A' (r R 2) → z' R = z R → cg_F L K r z' A' (r R 3) → (sc_R K r R σ z' A' ∧ sh_R K r (r R 3) σ z' A' ∧ sv_R σ) → sp_oc σ 0 → Q z' A') (h0 : ∀ z' A', cq_E L K r ρ R z0 A0 z' A' → z' R 0 = z (r R 2) 1 → ¬ z' R 1 = 0 → sp_oc σ (z' R 1) → Q z' A') : wp_c5_finish L K z r A R Q := by
  obtain ⟨d1, d2, d3, d4, d5⟩ := id D
  obtain ⟨n1, n2, n3, n4, n5, n6⟩ := id N
  have hE : 0 ≤ E ∧ E ≤ 400 := by omega
  have x1 := X.1
  have x2 := X.2.1
  have x4 := X.2.2.2.1
  have x10 := X.2.2.2.2.2.2.2.2.2.1
  have x12 := X.2.2.2.2.2.2.2.2.2.2.2
  have g7 := (X.2.2.2.2.2.2.2.2.2.2.1 _ x4).2.1
  have o := cq_o3 X
  have l7 := g7.2.1
  have c1 := (cq_wc X).1
  have mv : ∀ t, t < 2 → ∀ i : Nat, (i : Int) < z (cw_g K (r (r R 3) 1) t) 0 → 1 ≤ A (r (cw_g K (r (r R 3) 1) t) 2) i ∧ A (r (cw_g K (r (r R 3) 1) t) 2) i ≤ 4 := by
    intro t ht i hi
    obtain ⟨b1, b2, -⟩ := (d3 t ht).2 i hi
    have : ¬ A (r (cw_g K (r (r R 3) 1) t) 2) i = 0 := fun q => b2 q
    omega
  have dd : ∀ t, t < 2 → ∀ i : Nat, (i : Int) < z (cw_g K (r (r R 3) 1) t) 0 → A (r (cw_g K (r (r R 3) 1) t) 4) i = -1 ∨ (0 ≤ A (r (cw_g K (r (r R 3) 1) t) 4) i ∧ A (r (cw_g K (r (r R 3) 1) t) 4) i / 512 < (i : Int) ∧ A (r (cw_g K (r (r R 3) 1) t) 4) i % 512 < A (r (cw_g K (r (r R 3) 1) t) 2) (A (r (cw_g K (r (r R 3) 1) t) 4) i / 512).toNat) := by
    intro t ht i hi
    obtain ⟨-, -, -, b4, b5⟩ := (d3 t ht).2 i hi
    rcases b5 with b5 | ⟨b5, b6, b7 | b7⟩
    · exact Or.inl b5
    · exact b7.elim
    · exact Or.inr ⟨b5, by omega, b7⟩
  have ref : ∀ (z1 A1 : Nat → Nat → Int) (v : Int), (¬ v = 0 ∧ hz_rI v) → cF ρ (cq_r r ρ R) z0 A0 z1 A1 → cJ L K r z1 A1 → cl_T L K r z1 A1 (r R 2) → z1 (r R 2) 1 = z (r R 2) 1 → sp_oc σ v → wp_c5_refuse L K z1 r A1 R v (z1 (r R 2) 1) (fun _ z' => Q z' A1) := fun z1 A1 v hv F1 J1 T1 el oc => wv_c5_refuse X F1 J1 T1 hv (by have := T1.2.2.2.1; omega) (fun z' e e1 e0 => h0 z' A1 e (by rw [e0, el]) (by rw [e1]; exact hv.1) (by rw [e1]; exact oc))
  have sE : σ 0 1 = E := by rw [← S.1 1 (by decide)]; exact n1
  have pls : ∀ t, t < 2 → cPm (A (r (cw_g K (r (r R 3) 1) t) 2)) (z (cw_g K (r (r R 3) 1) t) 0).toNat = sp_pl σ t := by
    intro t ht
    obtain ⟨sa, sb⟩ := S.2.1 t ht
    rw [sa]
    exact cPm_congr (fun i hi => (sb i (by omega)).2.1)
  intro PP hPP
  have stp : ∀ (t : Nat) (x : Int), t < 2 → x = (t : Int) → (cPm (A (r (cw_g K (r (r R 3) 1) t) 2)) (z (cw_g K (r (r R 3) 1) t) 0).toNat ≤ 64 → ∀ x', x' = x + 1 → PP x') → PP x := by
    intro t x ht ex nx
    have xt : x.toNat = t := by omega
    refine hPP x ⟨by omega, fun q => by omega, fun _ => ⟨x1, x4, g7.1, by omega, ?_⟩⟩
    rw [xt]
    exact ⟨(cq_side X ht).1, wq_c7_countPlansE (cq_side X ht).1 x12 (d3 t ht).1 (mv t ht) (fun rg => ⟨rg, fun le x' ex' => nx le x' ex', fun gt => ⟨x2, ref z A 2 (by decide) d1 d2 T rfl (Or.inl ⟨by
      have q := pls t ht
      have : t = 0 ∨ t = 1 := by omega
      rcases this with rfl | rfl
      · exact Or.inl (by omega)
      · exact Or.inr (by omega), rfl⟩)⟩⟩)⟩
  refine stp 0 0 (by omega) rfl (fun p0 xa exa => stp 1 xa (by omega) (by omega) (fun p1 xb exb => ?_))
  have np : ¬ (64 < sp_pl σ 0 ∨ 64 < sp_pl σ 1) := by
    have q0 := pls 0 (by omega)
    have q1 := pls 1 (by omega)
    omega
  have pl : ∀ t, t < 2 → cS (A (r (cw_g K (r (r R 3) 1) t) 2)) (z (cw_g K (r (r R 3) 1) t) 0).toNat ≤ 19 := by
    intro t ht
    have hz := (d3 t ht).1
    refine cPm_19 (by omega) (fun i hi => mv t ht i (by omega)) ?_
    have : t = 0 ∨ t = 1 := by omega
    rcases this with rfl | rfl
    · exact p0
    · exact p1
  refine hPP xb ⟨by omega, fun _ => ⟨x1, wv_c5_findCommonNumber sE (fun j hj => (S.2.2 j (by omega)).2.1) X d2 hE n1 (fun j hj => (d4 j hj).1.1) (fun v z1 hv o1 hcm hcm1 hcm0 => ?_)⟩, fun q => by omega⟩
  have F1 : cF ρ (cq_r r ρ R) z0 A0 z1 A := cF_trans d1 (fun a ha => ⟨o1 a (fun e => ha (by rw [e]; exact Or.inr rfl)), rfl⟩)
  have J1 : cJ L K r z1 A := cJ_z d2 (fun b hb => o1 b (cw_O_ne hb x4 (by decide)))
  have T1 : cl_T L K r z1 A (r R 2) := cl_T_keep T (o1 _ o.2.2.2.1) rfl
  refine ⟨by omega, fun nv => ?_, fun ev => ⟨x2, ref z1 A 6 (by decide) F1 J1 T1 (by rw [o1 _ o.2.2.2.1]) (Or.inr (Or.inl ⟨np, Or.inl (hcm0 ev), rfl⟩))⟩⟩
  have hcm := hcm (by omega)
  have hcm1 := hcm1 (by omega)
  have zs1 : ∀ t, t < 2 → z1 (cw_g K (r (r R 3) 1) t) = z (cw_g K (r (r R 3) 1) t) := fun t ht => o1 _ (o.2.2.2.2 t ht).2.1
  intro PP2 hPP2
  have stp2 : ∀ (t : Nat) (x : Int) (z2 A2 : Nat → Nat → Int), t < 2 → x = (t : Int) → cq_H L K r ρ R z0 A0 z1 A z2 A2 → (∀ z3 A3 : Nat → Nat → Int, cq_H L K r ρ R z0 A0 z1 A z3 A3 → (∀ a, a ≠ cw_g K (r (r R 3) 1) t → z3 a = z2 a) → (∀ a, a ≠ r (cw_g K (r (r R 3) 1) t) 6 → a ≠ r (cw_g K (r (r R 3) 1) t) 7 → A3 a = A2 a) → cs_F L K r z3 A3 (cw_g K (r (r R 3) 1) t) → (z3 (cw_g K (r (r R 3) 1) t) 5 = 1 + cS (A (r (cw_g K (r (r R 3) 1) t) 2)) (z (cw_g K (r (r R 3) 1) t) 0).toNat ∧ ∀ i : Nat, (i : Int) < z (cw_g K (r (r R 3) 1) t) 0 → A3 (r (cw_g K (r (r R 3) 1) t) 6) i = 1 + cS (A (r (cw_g K (r (r R 3) 1) t) 2)) i ∧ A3 (r (cw_g K (r (r R 3) 1) t) 7) i = cs_l (A3 (r (cw_g K (r (r R 3) 1) t) 6)) (A (r (cw_g K (r (r R 3) 1) t) 4) i)) → ∀ x', x' = x + 1 → PP2 z3 A3 x') → PP2 z2 A2 x := by
    intro t x z2 A2 ht ex H nx
    obtain ⟨H1, H2, H3, H4, H5⟩ := H
    have xt : x.toNat = t := by omega
    have e2 : A2 (r (cw_g K (r (r R 3) 1) t) 2) = A (r (cw_g K (r (r R 3) 1) t) 2) := H5 _ (fun t' ht' => ⟨cq_nn X ht ht' (by omega) (by omega) (by decide), cq_nn X ht ht' (by omega) (by omega) (by decide)⟩)
    have e4 : A2 (r (cw_g K (r (r R 3) 1) t) 4) = A (r (cw_g K (r (r R 3) 1) t) 4) := H5 _ (fun t' ht' => ⟨cq_nn X ht ht' (by omega) (by omega) (by decide), cq_nn X ht ht' (by omega) (by omega) (by decide)⟩)
    have e0 : z2 (cw_g K (r (r R 3) 1) t) 0 = z (cw_g K (r (r R 3) 1) t) 0 := by rw [H4 t ht, zs1 t ht]
    refine hPP2 z2 A2 x ⟨by omega, fun q => by omega, fun _ => ⟨x1, x4, g7.1, by omega, ?_⟩⟩
    rw [xt]
    refine ⟨(cq_side X ht).1, wz_c7_numberLines (cq_side X ht).1 x10 x12 H2 (by rw [e0]; exact (d3 t ht).1) (by rw [e0, e2]; exact mv t ht) (by rw [e0, e2, e4]; exact dd t ht) (by rw [e0, e2]; exact pl t ht) (fun z3 A3 o3 s0 oA J3 F3 s5 s67 => nx z3 A3 ⟨?_, J3, ?_, ?_, ?_⟩ o3 oA F3 ⟨by rw [s5, e0, e2], fun i hi => by have q := s67 i (by rw [e0]; exact hi); rw [e2, e4] at q; exact q⟩)⟩
    · exact cF_trans H1 (fun a ha => ⟨o3 a (fun e => ha (by rw [e]; exact Or.inr (cq_side X ht).2.2)), oA a (fun e => ha (by rw [e]; exact Or.inr (cq_ws X ht (by omega)).2.2.2)) (fun e => ha (by rw [e]; exact Or.inr (cq_ws X ht (by omega)).2.2.2))⟩)
    · exact fun a ha => by rw [o3 a (ha t ht)]; exact H3 a ha
    · intro t' ht'
      by_cases e : t' = t
      · rw [e, s0]; exact H4 t ht
      · rw [o3 _ (cq_side_ne X ht' ht e)]; exact H4 t' ht'
    · exact fun a ha => by rw [oA a (ha t ht).1 (ha t ht).2]; exact H5 a ha
  refine stp2 0 0 z1 A (by omega) rfl ⟨F1, J1, fun _ _ => rfl, fun _ _ => rfl, fun _ _ => rfl⟩ (fun z2 A2 H2 oz2 oA2 S0 N0 xc exc => stp2 1 xc z2 A2 (by omega) (by omega) H2 (fun z3 A3 H3 oz3 oA3 S1 N1 xd exd => ?_))
  have S0' : cs_F L K r z3 A3 (cw_g K (r (r R 3) 1) 0) := by
    have ne : (cw_g K (r (r R 3) 1) 0) ≠ (cw_g K (r (r R 3) 1) 1) := cq_side_ne X (by omega) (by omega) (by decide)
    have ea : ∀ k, (k = 1 ∨ k = 2 ∨ k = 3 ∨ k = 4 ∨ k = 6 ∨ k = 7) → A3 (r (cw_g K (r (r R 3) 1) 0) k) = A2 (r (cw_g K (r (r R 3) 1) 0) k) := fun k hk => oA3 _ ((cq_apart X (t := 1) (by omega) (by omega)).2.2.2 0 k (by omega) hk (by decide)) ((cq_apart X (t := 1) (by omega) (by omega)).2.2.2 0 k (by omega) hk (by decide))
    unfold cs_F at S0 ⊢
    rw [oz3 _ ne, ea 2 (by omega), ea 4 (by omega), ea 6 (by omega), ea 7 (by omega)]
    exact S0
  have NN : ∀ t, t < 2 → z3 (cw_g K (r (r R 3) 1) t) 5 = 1 + cS (A (r (cw_g K (r (r R 3) 1) t) 2)) (z (cw_g K (r (r R 3) 1) t) 0).toNat ∧ ∀ i : Nat, (i : Int) < z (cw_g K (r (r R 3) 1) t) 0 → A3 (r (cw_g K (r (r R 3) 1) t) 6) i = 1 + cS (A (r (cw_g K (r (r R 3) 1) t) 2)) i ∧ A3 (r (cw_g K (r (r R 3) 1) t) 7) i = cs_l (A3 (r (cw_g K (r (r R 3) 1) t) 6)) (A (r (cw_g K (r (r R 3) 1) t) 4) i) := by
    intro t ht
    have e : t = 0 ∨ t = 1 := by omega
    rcases e with rfl | rfl
    · have ne : (cw_g K (r (r R 3) 1) 0) ≠ (cw_g K (r (r R 3) 1) 1) := cq_side_ne X (by omega) (by omega) (by decide)
      have ea : ∀ k, (k = 1 ∨ k = 2 ∨ k = 3 ∨ k = 4 ∨ k = 6 ∨ k = 7) → A3 (r (cw_g K (r (r R 3) 1) 0) k) = A2 (r (cw_g K (r (r R 3) 1) 0) k) := fun k hk => oA3 _ ((cq_apart X (t := 1) (by omega) (by omega)).2.2.2 0 k (by omega) hk (by decide)) ((cq_apart X (t := 1) (by omega) (by omega)).2.2.2 0 k (by omega) hk (by decide))
      rw [oz3 _ ne, ea 6 (by omega), ea 7 (by omega)]
      exact N0
    · exact N1
  have NS : ∀ t, t < 2 → z3 (cw_g K (r (r R 3) 1) t) 5 = sl_f σ t (σ 1 t).toNat ∧ ∀ i : Nat, (i : Int) < σ 1 t → A3 (r (cw_g K (r (r R 3) 1) t) 6) i = sl_f σ t i ∧ A3 (r (cw_g K (r (r R 3) 1) t) 7) i = cs_l (sl_f σ t) (σ (16 + t) i) := by
    intro t ht
    obtain ⟨sa, sb⟩ := S.2.1 t ht
    obtain ⟨n5, n67⟩ := NN t ht
    have cc : ∀ i : Nat, (i : Int) ≤ σ 1 t → cS (A (r (cw_g K (r (r R 3) 1) t) 2)) i = cS (σ (12 + t)) i := fun i hi => cS_congr (fun q hq => (sb q (by omega)).2.1)
    have z0 := (d3 t ht).1
    refine ⟨?_, fun i hi => ?_⟩
    · rw [n5, sa, cc _ (by omega)]
      rfl
    · obtain ⟨q1, q2⟩ := n67 i (by omega)
      refine ⟨by rw [q1, cc i (by omega)]; rfl, ?_⟩
      have s4 := (sb i hi).2.2.2
      rw [q2, s4]
      refine cs_l_congr ?_
      have v := dd t ht i (by omega)
      rw [s4] at v
      rcases v with v | ⟨v, v', -⟩
      · exact Or.inl v
      · refine Or.inr ?_
        rw [(n67 _ (by omega)).1, cc _ (by omega)]
        rfl
  obtain ⟨G1, G2, G3, G4, G5⟩ := H3
  have zs3 : ∀ t, t < 2 → z3 (cw_g K (r (r R 3) 1) t) 0 = z (cw_g K (r (r R 3) 1) t) 0 := fun t ht => by rw [G4 t ht, zs1 t ht]
  have eR : ∀ k, (k = 9 ∨ k = 10 ∨ k = 11 ∨ k = 12) → A3 (r R k) = A (r R k) := fun k hk => G5 _ (fun t ht => ⟨(cq_apart X ht (by omega)).1 k hk, (cq_apart X ht (by omega)).1 k hk⟩)
  have eW : ∀ i, i < 20 → A3 (cw_g K (r (r R 3) 3) i) = A (cw_g K (r (r R 3) 3) i) := fun i hi => G5 _ (fun t ht => ⟨(cq_apart X ht (by omega)).2.1 i hi, (cq_apart X ht (by omega)).2.1 i hi⟩)
  have eC : A3 (r (r R 3) 0) = A (r (r R 3) 0) := G5 _ (fun t ht => ⟨(cq_apart X ht (by omega)).2.2.1, (cq_apart X ht (by omega)).2.2.1⟩)
  have e2 : ∀ t, t < 2 → A3 (r (cw_g K (r (r R 3) 1) t) 2) = A (r (cw_g K (r (r R 3) 1) t) 2) := fun t ht => G5 _ (fun t' ht' => ⟨cq_nn X ht ht' (by omega) (by omega) (by decide), cq_nn X ht ht' (by omega) (by omega) (by decide)⟩)
  have he : cq_e K r z3 A3 R (fun _ _ => False) E := by
    intro j hj
    have := d4 j hj
    unfold cq_d at this ⊢
    rw [eR 9 (by omega), eR 10 (by omega), eR 11 (by omega), eR 12 (by omega), zs3 0 (by omega), zs3 1 (by omega), e2 0 (by omega), e2 1 (by omega)]
    exact this
  have z3g : z3 (r R 3) = z1 (r R 3) := G3 _ (fun t ht => Ne.symm (o.2.2.2.2 t ht).2.1)
  have z3w : z3 (r R 2) = z (r R 2) := by rw [G3 _ (fun t ht => Ne.symm (o.2.2.2.2 t ht).2.2)]; exact o1 _ o.2.2.2.1
  have z3R : z3 R = z R := by rw [G3 _ (fun t ht => Ne.symm (o.2.2.2.2 t ht).1)]; exact o1 _ (Ne.symm o.2.1)
  refine hPP2 z3 A3 xd ⟨by omega, fun _ => ⟨x1, wv_c5_fillWeights sE (fun j hj => by rw [eR 9 (by omega), eR 10 (by omega)]; have q := S.2.2 j (by omega); exact ⟨q.1, q.2.1⟩) (by rw [z3g]; exact hcm1) (fun j hj => by rw [eR 11 (by omega), eR 12 (by omega)]; have q := S.2.2 j (by omega); exact ⟨q.2.2.1, q.2.2.2⟩) (fun t ht i hi => ((NS t ht).2 i (by have q := zs3 t ht; have q2 := (S.2.1 t ht).1; omega)).1) X G2 hE (by rw [eC]; exact n1) he (fun i j hi hj => by rw [eW i hi]; exact d5 i j hi hj) S0' S1 (by rw [z3g]; exact hcm) (fun v A4 hv J4 fr hW hw1 hw0 hsw => ?_)⟩, fun q => by omega⟩
  have tx : ∀ t y, cw_A L K t y → (t = 0 ∨ t = 1) → r (r R 2) 0 ≠ y := fun t y hy' ht e => by
    have q := T.2.1
    rw [e] at q
    have := cw_A_ne q hy'
    omega
  have aw : A4 (r (r R 2) 0) = A (r (r R 2) 0) := by
    rw [fr _ (fun i hi => tx 1 _ (cq_ww X hi).1 (by omega)), G5 _ (fun t ht => ⟨tx 0 _ (cq_ws X ht (by omega)).1 (by omega), tx 0 _ (cq_ws X ht (by omega)).1 (by omega)⟩)]
  have T4 : cl_T L K r z3 A4 (r R 2) := cl_T_keep T z3w aw
  have F4 : cF ρ (cq_r r ρ R) z0 A0 z3 A4 := cF_trans G1 (fun a ha => ⟨rfl, fr a (fun i hi e => ha (by rw [e]; exact Or.inr (cq_ww X hi).2.2.2))⟩)
  refine ⟨by omega, fun nv' => ?_, fun ev => ⟨x2, ref z3 A4 6 (by decide) F4 J4 T4 (by rw [z3w]) (Or.inr (Or.inl ⟨np, Or.inr (hw0 ev), rfl⟩))⟩⟩
  have SS : ∀ t, t < 2 → cs_F L K r z3 A3 (cw_g K (r (r R 3) 1) t) → cs_F L K r z3 A4 (cw_g K (r (r R 3) 1) t) := by
    intro t ht S
    have ea : ∀ k, (k = 1 ∨ k = 2 ∨ k = 3 ∨ k = 4 ∨ k = 6 ∨ k = 7) → A4 (r (cw_g K (r (r R 3) 1) t) k) = A3 (r (cw_g K (r (r R 3) 1) t) k) := fun k hk => fr _ (fun i hi => Ne.symm ((cq_apart X ht hk).2.1 i hi))
    unfold cs_F at S ⊢
    rw [ea 2 (by omega), ea 4 (by omega), ea 6 (by omega), ea 7 (by omega)]
    exact S
  refine h1 z3 A4 F4 J4 T4 z3R ⟨x4, SS 0 (by omega) S0', SS 1 (by omega) S1, hW (by omega), by rw [z3g]; exact hcm⟩ ⟨sc_keep S ?_ zs3 (fun t k ht hk => ?_) (fun k hk => ?_), ⟨fun t ht => ?_, hsw (by omega), by rw [z3g]; exact hcm1⟩, ⟨fun t ht => ⟨by have q := (S.2.1 t ht).1; have q2 := (d3 t ht).1; omega, ?_, fun i hi => ?_⟩, by omega, fun t ht e he' => ?_⟩⟩ (Or.inr (Or.inr ⟨np, fun q => ?_, rfl⟩))
  · rw [fr _ (fun i hi => cg_ne (cq_wc X).2.2.1 (cq_ww X hi).2.2.1 (fun e => o.1 _ _ x4 e.1)), eC]
  · rw [fr _ (fun i hi => Ne.symm ((cq_apart X ht (by omega)).2.1 i hi))]
    exact G5 _ (fun t' ht' => ⟨cq_nn X ht ht' (by omega) (by omega) (by omega), cq_nn X ht ht' (by omega) (by omega) (by omega)⟩)
  · rw [fr _ (fun i hi => cg_ne (cq_wr X hk).1 (cq_ww X hi).2.2.1 (fun e => o.1 _ _ x1 e.1))]
    exact eR k hk
  · have ea : ∀ k, (k = 1 ∨ k = 2 ∨ k = 3 ∨ k = 4 ∨ k = 6 ∨ k = 7) → A4 (r (cw_g K (r (r R 3) 1) t) k) = A3 (r (cw_g K (r (r R 3) 1) t) k) := fun k hk => fr _ (fun i hi => Ne.symm ((cq_apart X ht hk).2.1 i hi))
    rw [ea 6 (by omega), ea 7 (by omega)]
    exact NS t ht
  · have q := pl t ht
    obtain ⟨sa, sb⟩ := S.2.1 t ht
    rw [sa, cS_congr (fun q hq => (sb q (by omega)).2.1)] at q
    exact q
  · obtain ⟨sa, sb⟩ := S.2.1 t ht
    have v := dd t ht i (by omega)
    have m9 := mv t ht i (by omega)
    rw [(sb i hi).2.1] at m9
    rw [(sb i hi).2.2.2] at v
    refine ⟨m9, ?_⟩
    rcases v with v | ⟨v, v', v''⟩
    · exact Or.inl v
    · rw [(sb _ (by omega)).2.1] at v''
      exact Or.inr ⟨v, v', v''⟩
  · obtain ⟨sa, sb⟩ := S.2.1 t ht
    have q := d4 e (by omega)
    have q9 := S.2.2 e he'
    have v : cq_d r z A (cw_g K (r (r R 3) 1) t) (fun _ => False) (σ (22 + t) e) := by
      have e2 : t = 0 ∨ t = 1 := by omega
      rcases e2 with rfl | rfl
      · rw [← q9.2.2.1]; exact q.2.1
      · rw [← q9.2.2.2]; exact q.2.2
    rcases v with v | ⟨v, v', v'' | v''⟩
    · exact Or.inl v
    · exact v''.elim
    · rw [(sb _ (by omega)).2.1] at v''
      exact Or.inr ⟨v, by omega, v''⟩
  · rcases q with q | q
    · rw [← hcm1] at q
      omega
    · exact hw1 (by omega) q
theorem wv_c5_understand {T9 : sp_T} {ps : Nat → Nat} {nt : Nat} (TK : tk_T (A (r (r R 2) 0)) (z (r R 2) 1).toNat T9 ps nt) (X : cq_X L K r w ρ R) (J : cJ L K r z A) (T : cl_T L K r z A (r R 2)) {Q : Int → (Nat → Nat → Int) → (Nat → Nat → Int) → Prop} (h1 : ∀ z' A', cF ρ (cq_r r ρ R) z A z' A' → cJ L K r z' A' → cl_T L K r z' A' (r R 2) → z' R 0 = -1 → cg_F L K r z' A' (r R 3) → (∃ σ, (sc_R K r R σ z' A' ∧ sh_R K r (r R 3) σ z' A' ∧ sv_R σ) ∧ sp_G T9 σ) → Q 0 z' A') (h0 : ∀ z' A', cq_E L K r ρ R z A z' A' → sp_R T9 (z (r R 2) 1) (z' R 1) (z' R 0) → Q (z' R 1) z' A') : wp_c5_understand L K z r A R Q := by
  obtain ⟨x1, x2, x3, x4, g4, x9, xa, xb, xc, x10, x11, x12⟩ := id X
  obtain ⟨c1, c2, c3, c4⟩ := cq_wc X
  have o := cq_o3 X
  have tx : ∀ t y, cw_A L K t y → ¬ t = 2 → r (r R 2) 0 ≠ y := fun t y hy' ht e => by
    have q := T.2.1
    rw [e] at q
    have := cw_A_ne q hy'
    omega
  refine ⟨x1, x4, wq_c2_clear X J (fun zc Ac oz sz oA sA Z0 Jc z7 e7 z8 e8 => ⟨x2, ?_⟩)⟩
  have o8 : ∀ a, a ≠ R → z8 a = zc a := fun a ha => by rw [e8, cw_s_a ha, e7, cw_s_a ha]
  have f80 : z8 R 0 = -1 := by rw [e8, cw_s_same]
  have f81 : z8 R 1 = 0 := by rw [e8, cw_s_k (by decide), e7, cw_s_same]
  have txc : Ac (r (r R 2) 0) = A (r (r R 2) 0) := oA _ (tx 0 _ c1 (by decide)) (fun i hi => tx 1 _ (cq_ww X hi).1 (by decide))
  have zw8 : z8 (r R 2) = z (r R 2) := by rw [o8 _ o.2.2.1, oz _ (fun t ht => Ne.symm (o.2.2.2.2 t ht).2.2)]
  have T8 : cl_T L K r z8 Ac (r R 2) := cl_T_keep T zw8 txc
  refine wq_c10_goToStart T8 (fun z10 b q o10 T10 l1 l3 l5 hR hk => ?_)
  rw [← l1] at hR
  rw [zw8] at l1
  have TK10 : tk_T (Ac (r (r R 2) 0)) (z10 (r R 2) 1).toNat T9 ps nt := by rw [txc, l1]; exact TK
  have bo : ∀ i, Ac (r R 4) i = 0 ∨ Ac (r R 4) i = 1 := fun i => (Jc.2 _).2.2.2 g4.1 i
  have JJ : ∀ z13 A14 : Nat → Nat → Int, cq_f L K r z10 Ac z13 A14 R → cJ L K r z13 A14 ∧ cF ρ (cq_r r ρ R) z A z13 A14 := by
    intro z13 A14 f
    obtain ⟨f1, f2, f3, f4, f5, f6, f7⟩ := f
    have zz : ∀ a, a ≠ R → a ≠ r R 2 → z13 a = zc a := fun a a1 a2 => by rw [f1 a a1 a2, o10 a a2, o8 a a1]
    refine ⟨cJ_A (cJ_z Jc (fun b hb => zz b (cw_O_ne hb x1 (by decide)) (cw_O_ne hb x2 (by decide)))) g4.1 (cg_dig x10 g4.2.2.1 x1 (by decide)) f3 (fun i => ⟨by omega, by omega, by omega, fun _ => f4 i⟩), fun a ha => ⟨?_, ?_⟩⟩
    · rw [zz a (fun e => ha (by rw [e]; exact Or.inl rfl)) (fun e => ha (by rw [e]; exact Or.inl x3))]
      exact oz a (fun t ht e => ha (by rw [e]; exact Or.inr (cq_side X ht).2.2))
    · rw [f3 a (fun e => ha (by rw [e]; exact Or.inl g4.2.2.2))]
      exact oA a (fun e => ha (by rw [e]; exact Or.inr c4)) (fun i hi e => ha (by rw [e]; exact Or.inr (cq_ww X hi).2.2.2))
  refine wv_c5_isOne TK10 x1 x2 g4.1 g4.2.1 T10 bo l3 l5 hR hk (fun z13 A14 f acc okk => ⟨by decide, fun _ => ?_, fun q => absurd q (by decide)⟩) (fun z13 A14 f nok => ⟨by decide, fun q => absurd rfl q, fun _ => ?_⟩)
  · obtain ⟨J13, F13⟩ := JJ z13 A14 f
    obtain ⟨f1, f2, f3, f4, f5, f6, f7⟩ := f
    refine wv_c10_goToStart f5 (fun z17 b' q' o17 T17 m1 m3 m5 hR' hk' hv' => ?_)
    have n4 : ∀ t y, cw_A L K t y → ¬ t = 3 → y ≠ r R 4 := fun t y hy' ht e => by
      rw [e] at hy'
      have := cw_A_ne hy' g4.1
      omega
    have c14 : A14 (r (r R 2) 0) = Ac (r (r R 2) 0) := f3 _ (n4 2 _ T.2.1 (by decide))
    have z17R : ∀ j, j ≠ 5 → j ≠ 6 → z17 R j = z8 R j := fun j j5 j6 => by rw [o17 R (Ne.symm o.2.2.1), f2 j j5 j6, o10 R (Ne.symm o.2.2.1)]
    have zs : ∀ t, t < 2 → z17 (cw_g K (r (r R 3) 1) t) 0 = 0 := fun t ht => by
      rw [o17 _ (o.2.2.2.2 t ht).2.2, f1 _ (o.2.2.2.2 t ht).1 (o.2.2.2.2 t ht).2.2, o10 _ (o.2.2.2.2 t ht).2.2, o8 _ (o.2.2.2.2 t ht).1]
      exact sz t ht
    have D17 : cq_D L K r ρ R z A (fun _ _ => False) (fun _ _ => False) 0 z17 A14 := by
      refine ⟨cF_trans F13 (cq_fr X (fun a a1 _ => o17 a a1)), cq_fJ X J13 (fun a a1 _ => o17 a a1), fun t ht => ⟨by rw [zs t ht]; decide, fun i hi => ?_⟩, fun j hj => by omega, fun i j hi hj => ?_⟩
      · rw [zs t ht] at hi
        omega
      · rw [f3 _ (n4 1 _ (cq_ww X hi).1 (by decide))]
        exact Z0 i j hi hj
    have cn : ∀ j, j < 4 → A14 (r (r R 3) 0) j = 0 := fun j hj => by rw [f3 _ (n4 0 _ c1 (by decide))]; exact sA j hj
    have N17 : cq_n r A14 R 0 0 := ⟨cn 1 (by decide), by decide, by rw [cn 2 (by decide)]; decide, by rw [cn 3 (by decide)]; decide, by rw [cn 2 (by decide), cn 3 (by decide), cn 0 (by decide)]; decide, by rw [cn 0 (by decide)]; decide⟩
    rw [c14, f6] at hR'
    have w17 : cq_w L K r (Ac (r (r R 2) 0)) (z10 (r R 2) 1).toNat z17 A14 R 0 := ⟨T17, by rw [m1, f6], c14, b', q', m3, m5, hR', hk', Ne.symm o.2.2.1, by rw [z17R 1 (by decide) (by decide)]; exact f81, by rw [z17R 0 (by decide) (by decide)]; exact f80⟩
    have n1k := TK10.2.1
    obtain ⟨bb, t1, t2, t3, -, -⟩ := TK10.2.2 0 (by omega)
    rw [TK10.1] at t1
    obtain ⟨u1, u2, u3⟩ := cl_R_uniq hR' t1
    have w17' : cv_w L K r (Ac (r (r R 2) 0)) (z10 (r R 2) 1).toNat T9 ps nt z17 A14 R 0 := ⟨by rw [TK10.1]; exact w17, by omega, u1, by rw [m3, t2, u2], fun q48 => by rw [hv' (by rw [u1]; exact q48), t3 q48, c14, u2, u3]⟩
    have S17 : sc_R K r R (fun _ _ => 0) z17 A14 := ⟨fun j hj => cn j hj, fun t ht => ⟨zs t ht, fun i hi => by have hi : (i : Int) < 0 := hi; omega⟩, fun j hj => by have hj : (j : Int) < 0 := hj; omega⟩
    obtain ⟨ok, hok⟩ := okk
    refine cv_node (z0 := z) (A0 := A) (c := Ac (r (r R 2) 0)) (n := (z10 (r R 2) 1).toNat) TK10 X 25 z17 A14 (fun _ _ => False) (fun _ _ => False) 0 [] 0 0 [] (fun _ _ => 0) 0 1 1 (-1) (-1) _ D17 S17 N17 w17' (by rw [TK10.1]; exact acc) (by decide) rfl (by decide) (Or.inl rfl) (Or.inl rfl) rfl rfl (fun E' z' A' k' σ' D' S' N' M' w' a' hc' hr' => ⟨by decide, fun q => absurd q (by decide), fun _ => ?_⟩) (fun z' A' e hr' => ⟨by decide, fun _ => ⟨x1, h0 z' A' e (Or.inr ⟨ok, hok, Or.inl ⟨e.2.2.2.1, hr'⟩⟩)⟩, fun q => absurd rfl q⟩)
    obtain ⟨⟨T', hn', -, -, -, -, -, -, -, -, g1, g0⟩, -⟩ := w'
    have len' : z' (r R 2) 1 = z (r R 2) 1 := by
      have := T'.2.2.2.1
      have := T.2.2.2.1
      rw [l1] at hn'
      omega
    refine wv_c5_finish S' X D' N' T' (fun z2 A2 F2 J2 T2 zR G2 S2 oc => ⟨x1, ?_⟩) (fun z2 A2 e e0 ne oc => ⟨x1, h0 z2 A2 e (Or.inr ⟨ok, hok, Or.inr ⟨k', σ', hr', oc, Or.inr ⟨ne, by rw [e0, len']⟩⟩⟩)⟩)
    rw [show z2 R 1 = 0 by rw [zR]; exact g1]
    exact h1 z2 A2 F2 J2 T2 (by rw [zR]; exact g0) G2 ⟨σ', S2, ⟨ok, hok⟩, k', hr', oc⟩
  · obtain ⟨J13, F13⟩ := JJ z13 A14 f
    obtain ⟨f1, f2, f3, f4, f5, f6, f7⟩ := f
    obtain ⟨kn, hkn, hp⟩ := nok
    exact wv_c5_refuse X F13 J13 f5 (by decide) (by omega) (fun z' e e1 e0 => h0 z' A14 e (Or.inl ⟨kn, hkn, e1, by rw [e0, hp]⟩))
end CJ
