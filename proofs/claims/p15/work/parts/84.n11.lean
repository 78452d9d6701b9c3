theorem sp_cm_dv {σ : Nat → Nat → Int} {n : Nat} (h : ∀ j, j < n → 1 ≤ σ 21 j) : 1 ≤ sp_cm σ n ∧ (sp_cm σ n < 1000000000 → ∀ j, j < n → σ 21 j ∣ sp_cm σ n) := by
  induction n with
  | zero => exact ⟨Int.le_refl 1, fun _ j hj => by omega⟩
  | succ n ih =>
    obtain ⟨i1, i2⟩ := ih (fun j hj => h j (by omega))
    have hn := h n (by omega)
    simp only [sp_cm]
    by_cases c : 1000000000 ≤ sp_cm σ n
    · rw [if_pos c]
      exact ⟨i1, fun q => by omega⟩
    · rw [if_neg c]
      by_cases c2 : 1000000000 ≤ σ 21 n
      · rw [if_pos c2]
        exact ⟨by decide, fun q => by omega⟩
      · rw [if_neg c2]
        obtain ⟨d1, d2, d3⟩ := sp_l_dvd i1 hn
        refine ⟨d3, fun _ j hj => ?_⟩
        by_cases e : j = n
        · rw [e]; exact d2
        · exact Int.dvd_trans (i2 (by omega) j (by omega)) d1
/-- a text that is one ends with its last word, at its length -/
theorem tk_last {c : Nat → Int} {n : Nat} {T : sp_T} {ps : Nat → Nat} {nt k : Nat} (TK : tk_T c n T ps nt) (h : sp_ok T.1 k) : T.2.1 (nt - 1) = (n : Int) := by
  obtain ⟨e, h1, h2⟩ := h
  have n1 := TK.2.1
  obtain ⟨b, t1, t2, -, -, t5⟩ := TK.2.2 (nt - 1) (by omega)
  have lst := t5 (by omega)
  have stepn : ∀ j, T.1 j = 0 ∨ T.1 j = 1 → ¬ j < k := by
    intro j hj hjk
    obtain ⟨d', st', e', q⟩ := sp_au_le (j := j + 1) h1 hjk
    obtain ⟨d2, s2, e2, -, q2, q3⟩ := q
    rcases hj with hj | hj
    · exact q2 hj
    · rw [hj] at q3
      rcases q3 with s | s | s | s | s | s | s | s | s | s | s | s | s | s <;> omega
  have k1 : ¬ nt - 1 < k := stepn _ lst
  have k2 : k = nt - 1 := by
    apply Classical.byContradiction
    intro hc
    obtain ⟨-, -, -, -, t4, -⟩ := TK.2.2 k (by omega)
    exact (t4 (by omega)).1 h2
  rw [k2] at h2
  rw [h2] at t1
  rw [t2]
  rcases t1.2.2.2.2 with ⟨q, -, -⟩ | ⟨-, -, -, -, -, -, ⟨-, q⟩ | ⟨-, q⟩⟩ | ⟨-, -, -, ⟨q1, q⟩ | ⟨-, q⟩⟩
  · omega
  · omega
  · omega
  · unfold cl_w at q1; omega
  · omega
theorem wv_over {σ : Nat → Nat → Int} {z : Nat → Int} {B : Nat → Nat → Int} {d n : Nat} {c : Int} {Q : (Nat → Int) → (Nat → Nat → Int) → Prop} (hM : mr_B d B σ []) (hd : d < 2) (hz : z 33 = (d : Int)) (hf : z 35 = 0) (h10 : z 10 = (n : Int)) (hn : 1 ≤ n ∧ n ≤ 4001) (hC : go_C B d) (hG : go_G B d 0 c (-1))
    (hQ : ∀ z' C, mz_R d B C → mz_X d B C → ((mo_stop z z' ∧ z' 36 = B 8 (n - 1) ∧ sp_oc σ (z' 35)) ∨ (z' = z ∧ mg_G C d ∧ mg_D C d ∧ sp_oc σ 0 ∧ (∀ k, k ≠ 19 → k ≠ 25 → C k = B k) ∧ (C 25 d = sp_cm σ (σ 0 1).toNat ∧ ∀ j : Nat, (j : Int) < σ 0 1 → C 19 (400 * d + j) = sp_we σ j))) → Q z' C) : wp_over z B Q := by
  have hC1 := hC
  obtain ⟨⟨c0, c1, c2⟩, c3, c4⟩ := hC1
  have hf' : hz_rI (z 35) := by rw [hf]; exact ⟨by decide, by decide⟩
  have ed : (z 33).toNat = d := by omega
  have hS := hG.2.1
  have hE := hG.2.2.2.2.2.2
  obtain ⟨E, hE0⟩ : ∃ E : Nat, B 14 d = (E : Int) := ⟨(B 14 d).toNat, by omega⟩
  have pr : ∀ p, p < 2 → hz_rI (lq_pp B d p (B 26 (2 * d + p)).toNat) := fun p hp => by
    obtain ⟨a, b⟩ := hS p hp
    obtain ⟨u, v⟩ := lq_pp_range (A := B) (g := d) (p := p) (B 26 (2 * d + p)).toNat (fun s hs => (b s (by omega)).2.1)
    have w : 4 ^ (B 26 (2 * d + p)).toNat ≤ 4 ^ 10 := Nat.pow_le_pow_right (by decide) (by omega)
    have w2 : 4 ^ 10 = 1048576 := by decide
    rw [w2] at w
    exact ⟨by omega, by omega⟩
  have e10 : (z 10 - 1).toNat = n - 1 := by omega
  have ppl : ∀ p, p < 2 → lq_pp B d p (B 26 (2 * d + p)).toNat = sp_pl σ p := fun p hp => by
    unfold sp_pl
    rw [hM.2.1 p hp]
    have hs := (hM.2.2.1 p hp).2
    have : ∀ m : Nat, (m : Int) ≤ σ 1 p → lq_pp B d p m = cPm (σ (12 + p)) m := by
      intro m
      induction m with
      | zero => intro _; rfl
      | succ m ih =>
        intro hm
        simp only [lq_pp, cPm]
        rw [ih (by omega), (hs m (by omega)).2.1]
    exact this _ (by have := (hM.2.2.1 p hp).1; omega)
  have pp0 := ppl 0 (by decide)
  have pp1 := ppl 1 (by decide)
  have stop2 : (64 < sp_pl σ 0 ∨ 64 < sp_pl σ 1) → wp_over_28 z B Q := fun why => wv_stop (by decide) (by omega) hf (fun z' h c35 c36 => hQ z' B (mz_R_refl d B) (mz_X_refl d B) (Or.inl ⟨h, by rw [c36, e10], by rw [c35]; exact Or.inl ⟨why, rfl⟩⟩))
  have sE : σ 0 1 = (E : Int) := by rw [← hE0]; exact hM.1.2.1.symm
  have sEn : (σ 0 1).toNat = E := by omega
  have se := hM.2.2.2.1
  have pos : ∀ j : Nat, j < E → 1 ≤ σ 21 j := fun j hj => by
    rw [← (se j (by omega)).2.1]
    exact (hE j (by omega)).2.2.1.1
  obtain ⟨cm1, cm2⟩ := sp_cm_dv (n := E) pos
  have p0 := wq_plansOf (z := z) (A := B) (g := d) (p := 0) (Q := fun r_25 => hz_rI r_25 ∧ ((64 < r_25 → wp_over_28 z B  Q) ∧ (¬ (64 < r_25) → wp_plansOf z B (z 33) 1 (fun r_27 => hz_rI r_27 ∧ ((r_27 ≤ 64 → ∀ x3_29 : Int, x3_29 = 400 * (z 33) → wp_over_51 z B 1 x3_29  Q) ∧ (¬ (r_27 ≤ 64) → wp_over_28 z B  Q)))))) hd (by decide) (hS 0 (by decide)).1
  unfold wp_over
  rw [← hz] at p0
  refine p0 ⟨pr 0 (by decide), fun q => stop2 (Or.inl (by omega)), fun q0 => ?_⟩
  have p1 := wq_plansOf (z := z) (A := B) (g := d) (p := 1) (Q := fun r_27 => hz_rI r_27 ∧ ((r_27 ≤ 64 → ∀ x3_29 : Int, x3_29 = 400 * (z 33) → wp_over_51 z B 1 x3_29  Q) ∧ (¬ (r_27 ≤ 64) → wp_over_28 z B  Q))) hd (by decide) (hS 1 (by decide)).1
  rw [← hz] at p1
  refine p1 ⟨pr 1 (by decide), fun q1 x3 hx3 => ?_, fun q => stop2 (Or.inr (by omega))⟩
  have np : ¬ (64 < sp_pl σ 0 ∨ 64 < sp_pl σ 1) := by omega
  -- the weights
  have second : ∀ x1 : Int, 1 ≤ x1 → x1 ≤ 1000000000000000000 → x1 = sp_cm σ E → wp_over_122 z B x1 Q := by
    intro x1 x10 x11 ex1
    refine ⟨⟨by omega, by omega⟩, fun small => ⟨by omega, fun D hD x3 hx3 => ?_⟩, fun lg => wv_stop (by decide) (by omega) hf (fun z' h c35 c36 => hQ z' B (mz_R_refl d B) (mz_X_refl d B) (Or.inl ⟨h, by rw [c36, e10], by rw [c35]; exact Or.inr (Or.inl ⟨np, Or.inl (by rw [sEn, ← ex1]; omega), rfl⟩)⟩))⟩
    have wee : ∀ j, sp_we σ j = sp_q x1 (σ 21 j) * σ 20 j := fun j => by unfold sp_we; rw [sEn, ← ex1]
    have e25 : ∀ i, D 25 i = if i = d then x1 else B 25 i := fun i => by
      rw [hD, lq_s_fun]
      unfold hz_u
      rw [ed]
    have eD : ∀ k, k ≠ 25 → D k = B k := fun k hk => by rw [hD, hb_s_other hk]
    intro P hP
    have RC : ∀ C, (∀ k, k ≠ 19 → C k = D k) → (∀ i, (i < 400 * d ∨ 400 * d + 400 ≤ i) → C 19 i = B 19 i) → mz_R d B C := fun C h1 h2 => by
      have h3 : ∀ k, k ≠ 19 → k ≠ 25 → C k = B k := fun k a b => by rw [h1 k a]; exact eD k b
      refine ⟨fun q a b => h3 q (by omega) (by omega), fun i hi => ?_, fun i _ _ => by rw [h3 26 (by decide) (by decide)], fun i _ => by rw [h3 28 (by decide) (by decide)], fun i hi => ?_, fun i _ => ?_⟩
      · rw [h3 14 (by decide) (by decide), h1 25 (by decide), e25, if_neg hi]
        exact ⟨rfl, rfl⟩
      · rw [h2 i hi, h3 20 (by decide) (by decide), h3 21 (by decide) (by decide)]
        exact ⟨rfl, rfl, rfl⟩
      · rw [h3 22 (by decide) (by decide), h3 23 (by decide) (by decide)]
        exact ⟨rfl, rfl⟩
    have XC : ∀ C : Nat → Nat → Int, (∀ k, k ≠ 19 → C k = D k) → mz_X d B C := fun C h1 => by
      have h3 : ∀ k, k ≠ 19 → k ≠ 25 → C k = B k := fun k a b => by rw [h1 k a]; exact eD k b
      exact mz_X_same (h3 13 (by decide) (by decide)) (h3 15 (by decide) (by decide)) (h3 16 (by decide) (by decide)) (h3 27 (by decide) (by decide)) (h3 29 (by decide) (by decide))
    have key : ∀ (m i : Nat) (C : Nat → Nat → Int), E - i = m → i ≤ E → (∀ k, k ≠ 19 → C k = D k) → (∀ i, (i < 400 * d ∨ 400 * d + 400 ≤ i) → C 19 i = B 19 i) → (∀ q : Nat, q < i → -1000000000 < C 19 (400 * d + q) ∧ C 19 (400 * d + q) < 1000000000) → (∀ q : Nat, q < i → ((sp_we σ q).natAbs : Int) < 1000000000) → (∀ q : Nat, q < i → C 19 (400 * d + q) = sp_we σ q) → P C ((400 * d + i : Nat) : Int) := by
      intro m
      induction m with
      | zero =>
        intro i C hm hi hC0 hout hin hwe hval
        have e14 : C 14 d = (E : Int) := by rw [hC0 14 (by decide), eD 14 (by decide)]; exact hE0
        refine hP C _ ⟨by omega, ⟨by omega, by omega⟩, by rw [ed, e14]; exact ⟨by omega, by omega⟩, fun _ => ?_, fun h => by rw [ed, e14] at h; omega⟩
        have gg := go_G_game hC hG (C := C) (fun k a b => by rw [hC0 k a]; exact eD k b) (by omega) q1 ?_ (fun q hq => hin q (by omega)) hd
        · refine hQ z C (RC C hC0 hout) (XC C hC0) (Or.inr ⟨rfl, gg.1, gg.2, Or.inr (Or.inr ⟨np, fun q => ?_, rfl⟩), fun k a b => by rw [hC0 k a]; exact eD k b, by rw [hC0 25 (by decide), e25, if_pos rfl, ex1, sEn], fun j hj => hval j (by omega)⟩)
          rcases q with q | ⟨j, j1, j2⟩
          · rw [sEn, ← ex1] at q; omega
          · have := hwe j (by omega)
            omega
        rw [hC0 25 (by decide), e25, if_pos rfl]
        exact ⟨x10, small⟩
      | succ m ih =>
        intro i C hm hi hC0 hout hin hwe hval
        have e14 : C 14 d = (E : Int) := by rw [hC0 14 (by decide), eD 14 (by decide)]; exact hE0
        have e17 : C 17 = B 17 := by rw [hC0 17 (by decide), eD 17 (by decide)]
        have e18 : C 18 = B 18 := by rw [hC0 18 (by decide), eD 18 (by decide)]
        obtain ⟨-, a2, a3, -⟩ := hE i (by omega)
        have ei : (((400 * d + i : Nat) : Int)).toNat = 400 * d + i := by omega
        -- a weight is written and looked at
        have wr : ∀ t0 : Int, -1000000000000000000 ≤ t0 → t0 ≤ 1000000000000000000 → (t0 = sp_we σ i ∨ (1000000000 ≤ t0 ∧ 1000000000 ≤ ((sp_we σ i).natAbs : Int))) → wp_over_244 z C x1 ((400 * d + i : Nat) : Int) t0 ((400 * d + i : Nat) : Int) P Q := by
          intro t0 t1 t2 ht0
          refine ⟨by omega, fun F hF => ⟨by omega, ?_⟩⟩
          have f19 : ∀ q, F 19 q = if q = 400 * d + i then t0 else C 19 q := fun q => by
            rw [hF, lq_s_fun]
            unfold hz_u
            rw [ei]
          have f0 : ∀ k, k ≠ 19 → F k = D k := fun k hk => by rw [hF, hb_s_other hk]; exact hC0 k hk
          have fo : ∀ q, (q < 400 * d ∨ 400 * d + 400 ≤ q) → F 19 q = B 19 q := fun q hq => by rw [f19, if_neg (by omega)]; exact hout q hq
          have st : 1000000000 ≤ ((sp_we σ i).natAbs : Int) → wp_over_271 z F Q := fun why => wv_stop (by decide) (by omega) hf (fun z' h c35 c36 => hQ z' F (RC F f0 fo) (XC F f0) (Or.inl ⟨h, by rw [c36, e10, f0 8 (by decide), eD 8 (by decide)], by rw [c35]; exact Or.inr (Or.inl ⟨np, Or.inr ⟨i, by omega, why⟩, rfl⟩)⟩))
          have fi : F 19 (400 * d + i) = t0 := by rw [f19, if_pos rfl]
          rw [ei, fi]
          refine ⟨⟨by omega, by omega⟩, fun q => st (by omega), fun l1 => ⟨by omega, ⟨by omega, by omega⟩, fun l2 x hx => ?_, fun q => st (by omega)⟩⟩
          have ex : x = ((400 * d + (i + 1) : Nat) : Int) := by omega
          rw [ex]
          refine ih (i + 1) F (by omega) (by omega) f0 fo (fun q hq => ?_) (fun q hq => ?_) (fun q hq => ?_)
          · rw [f19]
            split
            · exact ⟨by omega, by omega⟩
            · exact hin q (by omega)
          · by_cases eq : q = i
            · rw [eq]; omega
            · exact hwe q (by omega)
          · rw [f19]
            by_cases eq : q = i
            · rw [eq, if_pos rfl]
              omega
            · rw [if_neg (by omega)]
              exact hval q (by omega)
        refine hP C _ ⟨by omega, ⟨by omega, by omega⟩, by rw [ed, e14]; exact ⟨by omega, by omega⟩, fun h => by rw [ed, e14] at h; omega, fun _ => ⟨by omega, fun x4 hx4 => ?_⟩⟩
        rw [ei, e17] at hx4
        obtain ⟨se1, se2, -⟩ := se i (by omega)
        rw [se1] at hx4
        have dv := cm2 (by rw [← ex1]; exact small) i (by omega)
        rw [← ex1] at dv
        have b1 := pos i (by omega)
        obtain ⟨u, hu⟩ := dv
        have eu : sp_q x1 (σ 21 i) = u := by
          unfold sp_q
          rw [if_neg (by omega), hu, Int.mul_tdiv_cancel_left _ (by omega)]
        have u1 : 1 ≤ u := by
          apply Classical.byContradiction
          intro hc
          have : 0 ≤ σ 21 i * (-u) := Int.mul_nonneg (by omega) (by omega)
          rw [Int.mul_neg] at this
          omega
        have wi : sp_we σ i = u * x4 := by rw [wee, eu, hx4]
        have wa : ((sp_we σ i).natAbs : Int) = u * (x4.natAbs : Int) := by rw [wi, Int.natAbs_mul, Int.natCast_mul, show ((u.natAbs : Nat) : Int) = u by omega]
        have wb : 1 * (x4.natAbs : Int) ≤ u * (x4.natAbs : Int) := Int.mul_le_mul_of_nonneg_right u1 (by omega)
        have big : (1000000000 ≤ x4 ∨ x4 ≤ -1000000000) → wp_over_210 z C x1 ((400 * d + i : Nat) : Int) x4 P Q := fun why => ⟨⟨by decide, by decide⟩, fun h => absurd h (by decide), fun _ => wr _ (by decide) (by decide) (Or.inr ⟨by decide, by omega⟩)⟩
        refine ⟨⟨by omega, by omega⟩, fun q => big (by omega), fun l1 => ⟨⟨by omega, by omega⟩, fun l2 => ⟨⟨by decide, by decide⟩, fun _ => ⟨by omega, ?_⟩, fun h => absurd rfl h⟩, fun q => big (by omega)⟩⟩
        rw [ei, e18]
        have t0 : 0 ≤ x1.tdiv (B 18 (400 * d + i)) := Int.tdiv_nonneg (by omega) (by omega)
        have t1 : x1.tdiv (B 18 (400 * d + i)) ≤ x1 := by
          rw [Int.tdiv_eq_ediv_of_nonneg (by omega)]
          exact Int.ediv_le_self _ (by omega)
        have u1 : x1.tdiv (B 18 (400 * d + i)) * x4 ≤ x1.tdiv (B 18 (400 * d + i)) * 1000000000 := Int.mul_le_mul_of_nonneg_left (by omega) t0
        have u2 : x1.tdiv (B 18 (400 * d + i)) * (-1000000000) ≤ x1.tdiv (B 18 (400 * d + i)) * x4 := Int.mul_le_mul_of_nonneg_left (by omega) t0
        exact ⟨by omega, ⟨by omega, by omega⟩, ⟨by omega, by omega⟩, wr _ (by omega) (by omega) (Or.inl (by rw [wi, ← eu, ← se2]; unfold sp_q; rw [if_neg (by omega)]))⟩
    have h := key _ 0 D rfl (by omega) (fun _ _ => rfl) (fun i _ => by rw [eD 19 (by decide)]) (fun q hq => by omega) (fun q hq => by omega) (fun q hq => by omega)
    have ex : x3 = ((400 * d + 0 : Nat) : Int) := by omega
    rw [ex]
    exact h
  -- the common number
  intro P hP
  have key : ∀ (m i : Nat) (x1 : Int), E - i = m → i ≤ E → 1 ≤ x1 → x1 ≤ 1000000000000000000 → x1 = sp_cm σ i → P x1 ((400 * d + i : Nat) : Int) := by
    intro m
    induction m with
    | zero =>
      intro i x1 hm hi x10 x11 ex1
      exact hP x1 _ ⟨by omega, ⟨by omega, by omega⟩, by rw [ed, hE0]; exact ⟨by omega, by omega⟩, fun _ => second x1 x10 x11 (by rw [ex1, show i = E by omega]), fun h => by rw [ed, hE0] at h; omega⟩
    | succ m ih =>
      intro i x1 hm hi x10 x11 ex1
      obtain ⟨-, a2, a3, -⟩ := hE i (by omega)
      have ei : (((400 * d + i : Nat) : Int)).toNat = 400 * d + i := by omega
      refine hP x1 _ ⟨by omega, ⟨by omega, by omega⟩, by rw [ed, hE0]; exact ⟨by omega, by omega⟩, fun h => by rw [ed, hE0] at h; omega, fun _ => ⟨⟨by omega, by omega⟩, fun lg => second x1 x10 x11 (by rw [ex1, sp_cm_stay (by rw [← ex1]; omega) (show i ≤ E by omega)]), fun sm => ⟨by omega, fun x4 hx4 => ?_⟩⟩⟩
      rw [ei] at hx4
      have se2 := (se i (by omega)).2.1
      rw [se2] at hx4
      have nx : sp_cm σ (i + 1) = (if 1000000000 ≤ σ 21 i then 1000000000 else sp_l x1 (σ 21 i)) := by
        simp only [sp_cm]
        rw [← ex1, if_neg (by omega)]
      have next : ∀ t0 : Int, 1 ≤ t0 → t0 ≤ 1000000000000000000 → t0 = sp_cm σ (i + 1) → wp_over_115 z B ((400 * d + i : Nat) : Int) t0 P Q := by
        intro t0 t1 t2 et0 x hx
        have ex : x = ((400 * d + (i + 1) : Nat) : Int) := by omega
        rw [ex]
        exact ih (i + 1) t0 (by omega) (by omega) t1 t2 et0
      refine ⟨⟨by omega, by omega⟩, fun l4 => wv_divisor (by omega) (by omega) (fun r er r1 ra rb => ?_), fun l4 => next _ (by decide) (by decide) (by rw [nx, if_pos (by omega)])⟩
      have rr := Int.le_of_dvd (by omega) rb
      obtain ⟨m1, m2⟩ := mo_divn r1 ra
      have m3 := m2 x10
      have u1 : 1 * 1 ≤ x1.tdiv r * x4 := Int.mul_le_mul m3 (by omega) (by decide) (by omega)
      have u2 : x1.tdiv r * x4 ≤ 1000000000 * 1000000000 := Int.mul_le_mul (by omega) (by omega) (by omega) (by omega)
      exact ⟨by omega, ⟨by omega, by omega⟩, ⟨by omega, by omega⟩, next _ (by omega) (by omega) (by rw [nx, if_neg (by omega), ← hx4]; unfold sp_l sp_q; rw [← er, if_neg (by omega)])⟩
  have h := key _ 0 1 rfl (by omega) (by decide) (by decide) rfl
  have ex : x3 = ((400 * d + 0 : Nat) : Int) := by omega
  rw [ex]
  exact h
theorem wv_go {T : sp_T} {z : Nat → Int} {A : Nat → Nat → Int} {d n : Nat} {Q : Int → (Nat → Int) → (Nat → Nat → Int) → Prop} (TB : tk_B T A n) (kin : ∀ j, j < n → T.1 j = 0 ∨ T.1 j = 48 ∨ T.1 j = 1 ∨ cl_w (T.1 j)) (hd : d < 2) (hz : z 33 = (d : Int)) (h10 : z 10 = (n : Int)) (hT : mc_T A n) (hA : ma_A (ma_t A n) 0 [300, 0])
    (hQ : ∀ z' C, (∀ q, q ≠ 35 → q ≠ 36 → q ≠ 45 → q ≠ 46 → q ≠ 47 → q ≠ 48 → z' q = z q) → hz_rI (z' 35) → mz_R d A C → mz_X d A C → ((z' 35 ≠ 0 ∧ (sp_r T (sp_bg T (fun _ _ => 0) 0 [] 1 1) (sp_x (z' 35) (z' 36)) ∨ ∃ (k' : Nat) (σ : Nat → Nat → Int), sp_r T (sp_bg T (fun _ _ => 0) 0 [] 1 1) (0, -1, k', σ, []) ∧ sp_oc σ (z' 35) ∧ z' 36 = T.2.1 (n - 1))) ∨ (z' 35 = 0 ∧ (mg_G C d ∧ mg_D C d) ∧ ∃ (k' : Nat) (σ : Nat → Nat → Int), sp_r T (sp_bg T (fun _ _ => 0) 0 [] 1 1) (0, -1, k', σ, []) ∧ sp_oc σ 0 ∧ mr_B d C σ [] ∧ (C 25 d = sp_cm σ (σ 0 1).toNat ∧ ∀ j : Nat, (j : Int) < σ 0 1 → C 19 (400 * d + j) = sp_we σ j))) → Q (z' 35) z' C) : wp_go z A Q := by
  have ed : (z 33).toNat = d := by omega
  have e2d : (2 * z 33).toNat = 2 * d := by omega
  have e2d1 : (2 * z 33 + 1).toNat = 2 * d + 1 := by omega
  refine ⟨by omega, fun A10 h10' => ⟨by omega, fun A11 h11 => ⟨by omega, fun A12 h12 => ⟨by omega, fun A13 h13 => ⟨by omega, fun A14 h14 => ⟨by omega, fun A15 h15 => ⟨by omega, fun B hB z17 h17 z18 h18 z19 h19 => ?_⟩⟩⟩⟩⟩⟩⟩
  have b0 : ∀ k, k ≠ 13 → k ≠ 14 → k ≠ 15 → k ≠ 16 → k ≠ 24 → k ≠ 26 → B k = A k := fun k a b c e f g => by rw [hB, hb_s_other g, h15, hb_s_other g, h14, hb_s_other f, h13, hb_s_other e, h12, hb_s_other c, h11, hb_s_other b, h10', hb_s_other a]
  have b13 : B 13 d = 0 := by
    rw [hB, hb_s_other (by decide), h15, hb_s_other (by decide), h14, hb_s_other (by decide), h13, hb_s_other (by decide), h12, hb_s_other (by decide), h11, hb_s_other (by decide), h10', lq_s_fun]
    unfold hz_u
    rw [ed, if_pos rfl]
  have b14 : ∀ i, B 14 i = if i = d then 0 else A 14 i := fun i => by
    rw [hB, hb_s_other (by decide), h15, hb_s_other (by decide), h14, hb_s_other (by decide), h13, hb_s_other (by decide), h12, hb_s_other (by decide), h11, lq_s_fun]
    unfold hz_u
    rw [ed, h10', hb_s_other (by decide)]
  have b24 : B 24 d = 0 := by
    rw [hB, hb_s_other (by decide), h15, hb_s_other (by decide), h14, lq_s_fun]
    unfold hz_u
    rw [ed, if_pos rfl]
  have b26 : ∀ i, B 26 i = if i = 2 * d + 1 then 0 else if i = 2 * d then 0 else A 26 i := fun i => by
    rw [hB, lq_s_fun]
    unfold hz_u
    rw [e2d1, h15, lq_s_fun]
    unfold hz_u
    rw [e2d, h14, hb_s_other (by decide), h13, hb_s_other (by decide), h12, hb_s_other (by decide), h11, hb_s_other (by decide), h10', hb_s_other (by decide)]
  have RB : mz_R d A B := by
    refine ⟨fun q a b => b0 q (by omega) (by omega) (by omega) (by omega) (by omega) (by omega), fun i hi => ?_, fun i a b => ?_, fun i _ => by rw [b0 28 (by decide) (by decide) (by decide) (by decide) (by decide) (by decide)], fun i _ => ?_, fun i _ => ?_⟩
    · rw [b14, if_neg hi, b0 25 (by decide) (by decide) (by decide) (by decide) (by decide) (by decide)]
      exact ⟨rfl, rfl⟩
    · rw [b26, if_neg b, if_neg a]
    · rw [b0 19 (by decide) (by decide) (by decide) (by decide) (by decide) (by decide), b0 20 (by decide) (by decide) (by decide) (by decide) (by decide) (by decide), b0 21 (by decide) (by decide) (by decide) (by decide) (by decide) (by decide)]
      exact ⟨rfl, rfl, rfl⟩
    · rw [b0 22 (by decide) (by decide) (by decide) (by decide) (by decide) (by decide), b0 23 (by decide) (by decide) (by decide) (by decide) (by decide) (by decide)]
      exact ⟨rfl, rfl⟩
  have s26 : ∀ p, p < 2 → B 26 (2 * d + p) = 0 := fun p hp => by
    rw [b26]
    by_cases e : p = 1
    · rw [if_pos (by omega)]
    · rw [if_neg (by omega), if_pos (by omega)]
  have e14 : B 14 d = 0 := by rw [b14, if_pos rfl]
  have G0 : go_G B d 0 (B 13 d + 1) (-1) := by
    refine ⟨fun j hj => by omega, fun p hp => ?_, fun j hj => by omega, fun j hj => by omega, fun j hj => by omega, fun p hp s hs => ?_, fun e he => ?_⟩
    · rw [s26 p hp]
      exact ⟨by omega, fun s hs => by omega⟩
    · rw [s26 p hp] at hs
      omega
    · rw [e14] at he
      omega
  have C0 : go_C B d := by
    unfold go_C
    rw [b13, e14, b24]
    decide
  have g : ∀ q, q ≠ 35 → q ≠ 45 → q ≠ 46 → z19 q = z q := fun q a b c => by rw [h19, lp_U_other c, h18, lp_U_other b, h17, lp_U_other a]
  have g35 : z19 35 = 0 := by rw [h19, lp_U_other (by decide), h18, lp_U_other (by decide), h17, lp_U_same]
  have g45 : z19 45 = ((0 : Nat) : Int) := by rw [h19, lp_U_other (by decide), h18, lp_U_same]; rfl
  have g46 : z19 46 = ((0 : Nat) : Int) := by rw [h19, lp_U_same]; rfl
  have b15 : B 15 d = 0 := by
    rw [hB, hb_s_other (by decide), h15, hb_s_other (by decide), h14, hb_s_other (by decide), h13, hb_s_other (by decide), h12, lq_s_fun]
    unfold hz_u
    rw [ed, if_pos rfl]
  have b16 : B 16 d = 0 := by
    rw [hB, hb_s_other (by decide), h15, hb_s_other (by decide), h14, hb_s_other (by decide), h13, lq_s_fun]
    unfold hz_u
    rw [ed, if_pos rfl]
  have X0 : mz_X d A B := by
    refine ⟨fun q hq => ?_, fun q _ => ?_⟩
    · refine ⟨?_, ?_, ?_⟩
      · rw [hB, hb_s_other (by decide), h15, hb_s_other (by decide), h14, hb_s_other (by decide), h13, hb_s_other (by decide), h12, hb_s_other (by decide), h11, hb_s_other (by decide), h10', lq_s_fun]
        unfold hz_u
        rw [ed, if_neg hq]
      · rw [hB, hb_s_other (by decide), h15, hb_s_other (by decide), h14, hb_s_other (by decide), h13, hb_s_other (by decide), h12, lq_s_fun]
        unfold hz_u
        rw [ed, if_neg hq, h11, hb_s_other (by decide), h10', hb_s_other (by decide)]
      · rw [hB, hb_s_other (by decide), h15, hb_s_other (by decide), h14, hb_s_other (by decide), h13, lq_s_fun]
        unfold hz_u
        rw [ed, if_neg hq, h12, hb_s_other (by decide), h11, hb_s_other (by decide), h10', hb_s_other (by decide)]
    · rw [b0 27 (by decide) (by decide) (by decide) (by decide) (by decide) (by decide), b0 29 (by decide) (by decide) (by decide) (by decide) (by decide) (by decide)]
      exact ⟨rfl, rfl⟩
  have M0 : mr_B d B (fun _ _ => 0) [] := ⟨⟨b13, e14, b15, b16⟩, fun t ht => s26 t ht, fun t ht => ⟨by show (0 : Int) ≤ 0 ∧ (0 : Int) ≤ 10; decide, fun i hi => by have hi : (i : Int) < 0 := hi; omega⟩, fun j hj => by have hj : (j : Int) < 0 := hj; omega, True.intro⟩
  have one : sp_q 1 (sp_g 1 1) = 1 := by decide
  refine wv_beginNode (T := T) (σ := fun _ _ => 0) (F := []) (o := 0) (k := 0) TB kin M0 rfl (fun f hf => absurd hf (by simp)) X0 hd hT RB (by rw [g 33 (by decide) (by decide) (by decide)]; exact hz) g45 (by decide) g46 g35 C0 G0 (fun j hj => by omega) hA (by decide) (fun z1 C1 hW1 hI1 => ?_)
  rw [one] at hI1
  obtain ⟨hx1, hI1⟩ := hI1
  intro P hP
  have stopd : ∀ (z1 : Nat → Int) (C : Nat → Nat → Int), go_W d A z z1 C → mz_X d A C → z1 35 ≠ 0 → sp_r T (sp_bg T (fun _ _ => 0) 0 [] 1 1) (sp_x (z1 35) (z1 36)) → P z1 C := by
    intro z1 C ⟨w1, w2, w3, w4⟩ hxC hI hr
    have fin : wp_go_124 z1 C Q := ⟨w3, fun _ => hQ z1 C w1 w3 w4 hxC (Or.inl ⟨hI, Or.inl hr⟩), fun c => absurd c hI⟩
    exact hP z1 C ⟨⟨by omega, by omega⟩, fun _ => fin, fun _ => ⟨w3, fun _ => fin, fun c => absurd c hI⟩⟩
  have key : ∀ (m : Nat) (z1 : Nat → Int) (C : Nat → Nat → Int) (k0 kk : Nat) (σ : Nat → Nat → Int) (F : List sp_F), n - (z1 46).toNat = m → go_W d A z z1 C → mz_X d A C → z1 35 = 0 → go_I (ma_t A n) d z1 C k0 → sp_r T (sp_bg T (fun _ _ => 0) 0 [] 1 1) (0, -1, kk, σ, F) → mr_B d C σ F → z1 46 = (kk : Int) → z1 45 = (F.length : Int) → (∀ f, f ∈ F → f.1 < n) → P z1 C := by
    intro m
    induction m using Nat.strongRecOn with
    | ind m ih =>
      intro z1 C k0 kk σ F hm hW hxC z35 hI hr hM hkk hlen hpF
      obtain ⟨w1, w2, w3, w4⟩ := hW
      have r45 : hz_rI (z1 45) := ⟨by omega, by omega⟩
      obtain ⟨o, k, i45, i46, ik, io, iC, iG, imv, iA⟩ := hI
      have z33 : z1 33 = (d : Int) := by rw [w1 33 (by decide) (by decide) (by decide) (by decide) (by decide) (by decide)]; exact hz
      have z10 : z1 10 = (n : Int) := by rw [w1 10 (by decide) (by decide) (by decide) (by decide) (by decide) (by decide)]; exact h10
      have ekk : kk = k := by omega
      subst ekk
      refine hP z1 C ⟨r45, fun le => ⟨w3, fun c => absurd z35 c, fun _ => ?_⟩, fun gt => ⟨w3, fun c => absurd z35 c, fun _ => ?_⟩⟩
      · have o0 : o = 0 := by omega
        subst o0
        have F0 : F = [] := by
          cases F with
          | nil => rfl
          | cons f F => rw [List.length_cons] at hlen; omega
        subst F0
        refine wv_over hM hd z33 z35 z10 ⟨hT.1, hT.2.1⟩ iC iG (fun z' D hR hXD hO => ?_)
        rcases hO with ⟨hO, c36, oc⟩ | ⟨hO, hg, hD, oc, hk, hwt⟩
        · refine hQ z' D (fun q a b c e f g => (hO.1 q a b).trans (w1 q a b c e f g)) hO.2.2 (mz_R_trans w4 hR) (mz_X_trans hxC hXD) (Or.inl ⟨hO.2.1, Or.inr ⟨kk, σ, hr, oc, ?_⟩⟩)
          rw [c36, w4.1 8 (by decide) (by decide)]
          exact (TB (n - 1) (by have := hT.1; omega)).2.1
        · rw [hO]
          refine hQ z1 D w1 w3 (mz_R_trans w4 hR) (mz_X_trans hxC hXD) (Or.inr ⟨z35, ⟨hg, hD⟩, kk, σ, hr, oc, ?_, hwt⟩)
          exact mr_up hM (fun _ _ => rfl) rfl (by have q := hM.1; unfold mr_c at *; rw [hk 13 (by decide) (by decide), hk 14 (by decide) (by decide), hk 15 (by decide) (by decide), hk 16 (by decide) (by decide)]; exact q) (fun q hq => hk q (by omega) (by omega)) (fun q j _ _ _ => by rw [hk q (by omega) (by omega)]) (fun i _ => by rw [hk 43 (by decide) (by decide), hk 44 (by decide) (by decide)]; exact ⟨rfl, rfl⟩)
      · rcases iA with ⟨h, -⟩ | ⟨j, hj, hA'⟩
        · omega
        · subst hj
          have ej : z1 45 - 1 = (j : Int) := by omega
          rw [ej]
          obtain ⟨f, F', eF⟩ : ∃ f F', F = f :: F' := by
            cases F with
            | nil => rw [List.length_nil] at hlen; omega
            | cons f F' => exact ⟨f, F', rfl⟩
          subst eF
          rw [List.length_cons] at hlen
          refine wv_goOn TB kin hM (by omega) hpF hxC hd hT w4 z33 i45 (by omega) i46 z35 iC iG (fun i hi => imv i (by omega)) hA' (fun z' D hW' hI' hkn => ?_)
          obtain ⟨hx', hI'⟩ := hI'
          rcases hI' with ⟨h, hx⟩ | ⟨h1, h2, k', σ', F'', h3, h4, h5, h6, h7⟩
          · exact stopd z' D (go_W_mono w1 hW') hx' h (sp_r_trans hr (sp_r_step (by rw [hx]; exact sp_r_refl _ _)))
          · have h8 := h2
            obtain ⟨o', k'', a1, a2, a3, -⟩ := h8
            exact ih _ (by omega) z' D kk k' σ' F'' rfl (go_W_mono w1 hW') hx' h1 h2 (sp_r_trans hr (sp_r_step (by rw [h3]; exact sp_r_refl _ _))) h4 h5 h6 h7
  have W19 := go_W_mono (z := z) (fun q a _ c e _ _ => g q a c e) hW1
  rcases hI1 with ⟨h, hx⟩ | ⟨h1, h2, k', σ', F', h3, h4, h5, h6, h7⟩
  · exact stopd z1 C1 W19 hx1 h (by rw [hx]; exact sp_r_refl _ _)
  · exact key _ z1 C1 0 k' σ' F' rfl W19 hx1 h1 h2 (by rw [h3]; exact sp_r_refl _ _) h4 h5 h6 h7
/-- the ways to the ends of game g, and what the ends weigh -/
noncomputable def mg_Y (g : Nat) (B σ : Nat → Nat → Int) : Prop := σ 0 1 ≤ 400 ∧ B 25 g = sp_cm σ (σ 0 1).toNat ∧ ∀ j : Nat, (j : Int) < σ 0 1 → B 19 (400 * g + j) = sp_we σ j ∧ ∃ f l : Nat, B 20 (400 * g + j) = (f : Int) ∧ B 21 (400 * g + j) = (l : Int) ∧ 8000 * g ≤ f ∧ f + l ≤ 8000 * g + 8000 ∧ ∀ t, t < 2 → wl B t f l = ch σ t 30 (σ (22 + t) j)
theorem mg_Y_of {g : Nat} {B σ : Nat → Nat → Int} {F : List sp_F} (h : mr_B g B σ F) (hE : B 14 g ≤ 400) (hD : mg_D B g) (hc : B 25 g = sp_cm σ (σ 0 1).toNat) (hw : ∀ j : Nat, (j : Int) < σ 0 1 → B 19 (400 * g + j) = sp_we σ j) : mg_Y g B σ := ⟨by rw [← h.1.2.1]; exact hE, hc, fun j hj => by
  obtain ⟨f, l, a1, a2, a3, a4, a5, a6⟩ := (h.2.2.2.1 j hj).2.2
  have q := (hD.1 j (by rw [h.1.2.1]; exact hj)).2
  rw [a1, a2] at q
  refine ⟨hw j hj, f, l, a1, a2, a3, by omega, fun t ht => ?_⟩
  obtain ⟨b1, b2⟩ := a6 t ht
  rw [b1]
  exact ch_of ht h.2.2.1 20 _ (by have := wl_len B t f l; omega) b2 30 (by decide)⟩
theorem mg_Y_same {g : Nat} {B C σ : Nat → Nat → Int} (h19 : ∀ i, 400 * g ≤ i → i < 400 * g + 400 → C 19 i = B 19 i ∧ C 20 i = B 20 i ∧ C 21 i = B 21 i) (h22 : ∀ i, 8000 * g ≤ i → i < 8000 * g + 8000 → C 22 i = B 22 i ∧ C 23 i = B 23 i) (h25 : C 25 g = B 25 g) (h : mg_Y g B σ) : mg_Y g C σ := ⟨h.1, by rw [h25]; exact h.2.1, fun j hj => by
  have h4 := h.1
  obtain ⟨a, f, l, b, c, e, k, m⟩ := h.2.2 j hj
  obtain ⟨x1, x2, x3⟩ := h19 (400 * g + j) (by omega) (by omega)
  refine ⟨by rw [x1]; exact a, f, l, by rw [x2]; exact b, by rw [x3]; exact c, e, k, fun t ht => ?_⟩
  rw [wl_keep (fun i hi => h22 (f + i) (by omega) (by omega))]
  exact m t ht⟩
/-- game g of the model is σ -/
noncomputable def mg_R (g : Nat) (B σ : Nat → Nat → Int) : Prop := (mr_c g B σ ∧ mg_Y g B σ) ∧ mr_n g B σ ∧ ∀ t, t < 2 → (0 ≤ σ 1 t ∧ σ 1 t ≤ 10) ∧ ∀ i : Nat, (i : Int) < σ 1 t → B 27 (20 * g + (10 * t + i)) = σ (10 + t) i ∧ B 28 (20 * g + (10 * t + i)) = σ (12 + t) i ∧ B 29 (20 * g + (10 * t + i)) = σ (14 + t) i
theorem mg_of {g : Nat} {B σ : Nat → Nat → Int} {F : List sp_F} (h : mr_B g B σ F) (hE : B 14 g ≤ 400) (hD : mg_D B g) (hc : B 25 g = sp_cm σ (σ 0 1).toNat) (hw : ∀ j : Nat, (j : Int) < σ 0 1 → B 19 (400 * g + j) = sp_we σ j) : mg_R g B σ := ⟨⟨h.1, mg_Y_of h hE hD hc hw⟩, h.2.1, fun t ht => ⟨(h.2.2.1 t ht).1, fun i hi => by
  obtain ⟨a, b, c, -⟩ := (h.2.2.1 t ht).2 i hi
  exact ⟨a, b, c⟩⟩⟩
theorem mg_same {g : Nat} {B C σ : Nat → Nat → Int} (e : ∀ k, (13 ≤ k ∧ k ≤ 16) ∨ (26 ≤ k ∧ k ≤ 29) ∨ (19 ≤ k ∧ k ≤ 23) ∨ k = 25 → C k = B k) (h : mg_R g B σ) : mg_R g C σ := by
  have hY : mg_Y g C σ := ⟨h.1.2.1, by rw [e 25 (by decide)]; exact h.1.2.2.1, fun j hj => by
    obtain ⟨a, f, l, b, c, e2, k, m⟩ := h.1.2.2.2 j hj
    refine ⟨by rw [e 19 (by decide)]; exact a, f, l, by rw [e 20 (by decide)]; exact b, by rw [e 21 (by decide)]; exact c, e2, k, fun t ht => ?_⟩
    rw [wl_keep (fun i _ => ⟨by rw [e 22 (by decide)], by rw [e 23 (by decide)]⟩)]
    exact m t ht⟩
  refine ⟨⟨?_, hY⟩, ?_⟩
  · have h1 := h.1.1
    unfold mr_c at *
    rw [e 13 (by decide), e 14 (by decide), e 15 (by decide), e 16 (by decide)]
    exact h1
  have h := h.2
  unfold mr_n at *
  rw [e 26 (by decide), e 27 (by decide), e 28 (by decide), e 29 (by decide)]
  exact h
theorem mg_B {g : Nat} {A B σ : Nat → Nat → Int} (b0 : ∀ k, k ≠ 7 → k ≠ 8 → k ≠ 9 → k ≠ 11 → B k = A k) (h : mg_R g A σ) : mg_R g B σ := mg_same (fun k hk => b0 k (by omega) (by omega) (by omega) (by omega)) h
theorem mg_keep {d g : Nat} {B C σ : Nat → Nat → Int} (hd : d < 2) (hg : g < 2) (hgd : g ≠ d) (hR : mz_R d B C) (hX : mz_X d B C) (h : mg_R g B σ) : mg_R g C σ := by
  obtain ⟨⟨⟨c1, c2, c3, c4⟩, hY⟩, n, s⟩ := h
  obtain ⟨x1, x2⟩ := hX
  obtain ⟨-, r14, r26, r28, r19, r22⟩ := hR
  obtain ⟨y1, y2, y3⟩ := x1 g hgd
  refine ⟨⟨⟨by rw [y1]; exact c1, by rw [(r14 g hgd).1]; exact c2, by rw [y2]; exact c3, by rw [y3]; exact c4⟩, mg_Y_same (fun i a b => r19 i (by omega)) (fun i a b => r22 i (by omega)) (r14 g hgd).2 hY⟩, fun t ht => by rw [r26 _ (by omega) (by omega)]; exact n t ht, fun t ht => ⟨(s t ht).1, fun i hi => ?_⟩⟩
  have := (s t ht).1
  obtain ⟨z1, z2⟩ := x2 (20 * g + (10 * t + i)) (by omega)
  rw [z1, z2, r28 _ (by omega)]
  exact (s t ht).2 i hi
theorem wv_read {T : sp_T} {ps : Nat → Nat} {nt : Nat} {z : Nat → Int} {A : Nat → Nat → Int} {Q : Int → (Nat → Int) → (Nat → Nat → Int) → Prop} (TK : tk_T (A 4) (z 5).toNat T ps nt) (hI : mi_I z A) (hQ : ∀ r z' C, mi_I z' C → z' 5 = 0 → sp_R T (z 5) r (z' 6) → (r = 0 → z' 34 = 1 ∧ ∃ σ, sp_G T σ ∧ mg_R (z' 32).toNat C σ) → (¬ r = 0 → z' 34 = z 34 ∧ z' 32 = z 32 ∧ ∀ σ, mg_R (z 32).toNat A σ → mg_R (z 32).toNat C σ) → Q r z' C) : wp_read z A Q := by
  obtain ⟨i1, i2, i3, i4, i5, i6, i7, i8, i9, i10⟩ := hI
  obtain ⟨d, hd, hz33⟩ : ∃ d : Nat, d < 2 ∧ z 33 = (d : Int) := ⟨(z 33).toNat, by omega, by omega⟩
  intro z9 hz9
  have g9 : ∀ q, q ≠ 3 → z9 q = z q := fun q a => by rw [hz9, lp_U_other a]
  obtain ⟨n, en⟩ : ∃ n, n = nt := ⟨nt, rfl⟩
  refine wv_cut (by rw [g9 5 (by decide)]; exact i1) (by rw [g9 5 (by decide)]; exact i2) (by rw [g9 5 (by decide)]; exact TK) (fun A12 hZ hT TB z13 hz13 => ?_)
  rw [← en] at hT TB hz13
  have kin : ∀ j, j < n → T.1 j = 0 ∨ T.1 j = 48 ∨ T.1 j = 1 ∨ cl_w (T.1 j) := fun j hj => by
    obtain ⟨b, tb, -⟩ := TK.2.2 j (by omega)
    exact cl_R_kind tb
  have g13 : ∀ q, q ≠ 3 → q ≠ 5 → q ≠ 10 → z13 q = z q := fun q a b c => by rw [hz13, lp_U_other b, lp_U_other c]; exact g9 q a
  have g13a : z13 5 = 0 := by rw [hz13, lp_U_same]
  have g13b : z13 10 = (n : Int) := by rw [hz13, lp_U_other (by decide), lp_U_same]
  refine wv_bad (fun j hj => (TB j hj).1) kin hT (fun r z15 B hz15 hK hr => ?_)
  have n1 := hT.2.1
  have g : ∀ q, q ≠ 3 → q ≠ 5 → q ≠ 10 → q ≠ 12 → z15 q = z q := fun q a b c e => by rw [hz15 q e]; exact g13 q a b c
  have g5 : z15 5 = 0 := by rw [hz15 5 (by decide)]; exact g13a
  have g10 : z15 10 = (n : Int) := by rw [hz15 10 (by decide)]; exact g13b
  have b0 : ∀ k, k ≠ 7 → k ≠ 8 → k ≠ 9 → k ≠ 11 → B k = A k := fun k a b c e => by rw [hK k e]; exact hZ k a b c
  -- what was is kept
  have kept : ∀ (z' : Nat → Int) (C : Nat → Nat → Int), mz_R d B C → z' 5 = 0 → z' 34 = z 34 → z' 32 = z 32 → z' 33 = z 33 → z' 57 = z 57 → mi_I z' C := by
    intro z' C hR h5 h34 h32 h33 h57
    have c0 : ∀ k, (k < 7 ∨ 44 < k) → C k = A k := fun k hk => by rw [hR.1 k (by omega) (by omega)]; exact b0 k (by omega) (by omega) (by omega) (by omega)
    unfold mi_I
    rw [h5, h34, h32, h33, h57, c0 52 (by decide), c0 51 (by decide)]
    refine ⟨by decide, fun i hi => by omega, i3, i4, i5, fun c => ?_, (hb_arr (c0 0 (by decide)) (c0 1 (by decide)) (c0 2 (by decide))).1 i7, i8, i9, i10⟩
    obtain ⟨j1, j2, j3⟩ := i6 c
    have hB : mg_G B (z 32).toNat ∧ mg_D B (z 32).toNat := by
      have e : ∀ k, 11 < k → B k = A k := fun k hk => b0 k (by omega) (by omega) (by omega) (by omega)
      have ep : ∀ g p n, lq_pp B g p n = lq_pp A g p n := fun g p n => by
        induction n with
        | zero => rfl
        | succ n ih => simp only [lq_pp]; rw [ih, e 28 (by decide)]
      unfold mg_G mg_E mg_S mg_D at *
      rw [e 14 (by decide), e 19 (by decide), e 20 (by decide), e 21 (by decide), e 22 (by decide), e 23 (by decide), e 25 (by decide), e 26 (by decide), e 28 (by decide), ep, ep]
      exact ⟨j1, j2⟩
    obtain ⟨k1, k2⟩ := mz_R_G hd (by omega) (by omega) hR hB.1 hB.2
    refine ⟨k1, k2, ?_⟩
    unfold mg_W at *
    rw [c0 49 (by decide), c0 50 (by decide)]
    exact j3
  have TBB : tk_B T B n := fun j hj => by rw [hK 7 (by decide), hK 8 (by decide), hK 9 (by decide)]; exact TB j hj
  refine ⟨by rcases hr with ⟨h, -⟩ | h <;> exact ⟨by omega, by omega⟩, fun neg => ?_, fun pos => ⟨?_, fun z27 hz27 => ?_⟩⟩
  · obtain ⟨hA, okk⟩ : ma_A (ma_t A12 n) 0 [300, 0] ∧ ∃ k', sp_ok T.1 k' := by
      rcases hr with ⟨-, h⟩ | h
      · exact h
      · omega
    obtain ⟨ok, hok⟩ := okk
    have lst : T.2.1 (n - 1) = z 5 := by
      rw [en, tk_last TK hok]
      omega
    have e7 : B 7 = A12 7 := hK 7 (by decide)
    have hT' : mc_T B n := by
      unfold mc_T mc_K at *
      rw [e7, hK 8 (by decide), hK 9 (by decide)]
      exact hT
    have ht : ma_t B n = ma_t A12 n := by
      unfold ma_t
      rw [e7]
    have g33 : z15 33 = (d : Int) := by rw [g 33 (by decide) (by decide) (by decide) (by decide)]; exact hz33
    refine wv_go TBB kin hd g33 g10 hT' (by rw [ht]; exact hA) (fun z19 C w1 w3 hR hX9 hO => ⟨w3, fun z0 z22 h22 z23 h23 z24 h24 z25 h25 => ?_, fun nz z26 h26 => ?_⟩)
    · obtain ⟨hg, kx, σ, hrun, oc, hMB, hWT⟩ : (mg_G C d ∧ mg_D C d) ∧ ∃ (k' : Nat) (σ : Nat → Nat → Int), sp_r T (sp_bg T (fun _ _ => 0) 0 [] 1 1) (0, -1, k', σ, []) ∧ sp_oc σ 0 ∧ mr_B d C σ [] ∧ (C 25 d = sp_cm σ (σ 0 1).toNat ∧ ∀ j : Nat, (j : Int) < σ 0 1 → C 19 (400 * d + j) = sp_we σ j) := by
        rcases hO with h | ⟨-, h⟩
        · exact absurd z0 h.1
        · exact h
      have v : ∀ q, q ≠ 6 → q ≠ 32 → q ≠ 33 → q ≠ 34 → z25 q = z19 q := fun q a b c e => by rw [h25, lp_U_other a, h24, lp_U_other e, h23, lp_U_other c, h22, lp_U_other b]
      have z19_33 : z19 33 = (d : Int) := by rw [w1 33 (by decide) (by decide) (by decide) (by decide) (by decide) (by decide)]; exact g33
      have v5 : z25 5 = 0 := by rw [v 5 (by decide) (by decide) (by decide) (by decide), w1 5 (by decide) (by decide) (by decide) (by decide) (by decide) (by decide)]; exact g5
      have v57 : z25 57 = z 57 := by rw [v 57 (by decide) (by decide) (by decide) (by decide), w1 57 (by decide) (by decide) (by decide) (by decide) (by decide) (by decide)]; exact g 57 (by decide) (by decide) (by decide) (by decide)
      have v34 : z25 34 = 1 := by rw [h25, lp_U_other (by decide), h24, lp_U_same]
      have v32 : z25 32 = (d : Int) := by rw [h25, lp_U_other (by decide), h24, lp_U_other (by decide), h23, lp_U_other (by decide), h22, lp_U_same]; exact z19_33
      have v33 : z25 33 = 1 - (d : Int) := by rw [h25, lp_U_other (by decide), h24, lp_U_other (by decide), h23, lp_U_same, h22, lp_U_same, z19_33]
      have c0 : ∀ k, (k < 7 ∨ 44 < k) → C k = A k := fun k hk => by rw [hR.1 k (by omega) (by omega)]; exact b0 k (by omega) (by omega) (by omega) (by omega)
      have second : ∀ D, (∀ k, k ≠ 49 → k ≠ 50 → k ≠ 51 → D k = C k) → (∀ s, D 51 s = 0 ∨ D 51 s = 1) → wp_read_105 z25 D 0 Q := by
        intro D hD h51 P hP
        have key : ∀ (m i : Nat) (F : Nat → Nat → Int), 80 - i = m → i ≤ 80 → (∀ k, k ≠ 49 → k ≠ 50 → F k = D k) → (∀ q, q < i → (F 49 q = 0 ∨ F 49 q = 1) ∧ F 50 q = 1) → P F (i : Int) := by
          intro m
          induction m with
          | zero =>
            intro i F hm hi hF hW
            refine hP F _ ⟨⟨by omega, by omega⟩, fun _ => hQ 0 z25 F ?_ v5 (by rw [show z25 6 = -1 by rw [h25, lp_U_same]]; exact sp_G_R ⟨⟨ok, hok⟩, kx, hrun, oc⟩ _) (fun _ => ⟨v34, σ, ⟨⟨ok, hok⟩, kx, hrun, oc⟩, by
              rw [v32, show ((d : Int)).toNat = d by omega]
              have f0 : ∀ k, k ≠ 49 → k ≠ 50 → k ≠ 51 → F k = C k := fun k a b c => by rw [hF k a b]; exact hD k a b c
              refine mg_of (F := []) ?_ (by rw [f0 14 (by decide) (by decide) (by decide)]; exact hg.1.1.1.2) (by
                have q := hg.2
                unfold mg_D at *
                rw [f0 14 (by decide) (by decide) (by decide), f0 20 (by decide) (by decide) (by decide), f0 21 (by decide) (by decide) (by decide), f0 22 (by decide) (by decide) (by decide)]
                exact q) (by rw [f0 25 (by decide) (by decide) (by decide)]; exact hWT.1) (fun j hj => by rw [f0 19 (by decide) (by decide) (by decide)]; exact hWT.2 j hj)
              exact mr_up hMB (fun _ _ => rfl) rfl (by have q := hMB.1; unfold mr_c at *; rw [f0 13 (by decide) (by decide) (by decide), f0 14 (by decide) (by decide) (by decide), f0 15 (by decide) (by decide) (by decide), f0 16 (by decide) (by decide) (by decide)]; exact q) (fun q hq => f0 q (by omega) (by omega) (by omega)) (fun q j _ _ _ => by rw [f0 q (by omega) (by omega) (by omega)]) (fun i _ => by rw [f0 43 (by decide) (by decide) (by decide), f0 44 (by decide) (by decide) (by decide)]; exact ⟨rfl, rfl⟩)⟩) (fun q => absurd rfl q), fun c => by omega⟩
            have f0 : ∀ k, k ≠ 49 → k ≠ 50 → k ≠ 51 → F k = C k := fun k a b c => by rw [hF k a b]; exact hD k a b c
            unfold mi_I
            rw [v5, v34, v32, v33, v57, hF 51 (by decide) (by decide), f0 52 (by decide) (by decide) (by decide), c0 52 (by decide)]
            refine ⟨by decide, fun i hi => by omega, Or.inr rfl, by omega, rfl, fun _ => ?_, ?_, i8, h51, i10⟩
            · have ed : ((d : Int)).toNat = d := by omega
              rw [ed]
              obtain ⟨k1, k2⟩ := mg_G_49 f0 hg.1 hg.2
              refine ⟨k1, k2, fun q hq => ?_⟩
              obtain ⟨u1, u2⟩ := hW q (by omega)
              rw [u2]
              omega
            · refine (hb_arr ?_ ?_ ?_).1 i7
              · rw [f0 0 (by decide) (by decide) (by decide)]
                exact c0 0 (by decide)
              · rw [f0 1 (by decide) (by decide) (by decide)]
                exact c0 1 (by decide)
              · rw [f0 2 (by decide) (by decide) (by decide)]
                exact c0 2 (by decide)
          | succ m ih =>
            intro i F hm hi hF hW
            have ei : ((i : Int)).toNat = i := by omega
            have wr : ∀ t0 : Int, (t0 = 0 ∨ t0 = 1) → wp_read_127 z25 F (i : Int) t0 (i : Int) P Q := by
              intro t0 h0
              refine ⟨by omega, fun G hG => ⟨by omega, fun H hH x hx => ?_⟩⟩
              have ex : x = ((i + 1 : Nat) : Int) := by omega
              rw [ex]
              refine ih (i + 1) H (by omega) (by omega) (fun k a b => by rw [hH, hb_s_other b, hG, hb_s_other a]; exact hF k a b) (fun q hq => ?_)
              have q49 : H 49 q = if q = i then t0 else F 49 q := by
                rw [hH, hb_s_other (by decide), hG, lq_s_fun]
                unfold hz_u
                rw [ei]
              have q50 : H 50 q = if q = i then 1 else F 50 q := by
                rw [hH, lq_s_fun]
                unfold hz_u
                rw [ei, hG, hb_s_other (by decide)]
              rw [q49, q50]
              split
              · exact ⟨h0, rfl⟩
              · exact hW q (by omega)
            have em : ((i : Int)).tmod 4 = (i : Int) % 4 := Int.tmod_eq_emod_of_nonneg (by omega)
            refine hP F _ ⟨⟨by omega, by omega⟩, fun c => by omega, fun _ => ⟨⟨by omega, by omega⟩, by rw [em]; exact ⟨by omega, by omega⟩, fun _ => wr 0 (Or.inl rfl), fun _ => wr 1 (Or.inr rfl)⟩⟩
        exact key _ 0 D rfl (by omega) (fun _ _ _ => rfl) (fun q hq => by omega)
      intro P hP
      have key : ∀ (m i : Nat) (F : Nat → Nat → Int), 4 - i = m → i ≤ 4 → (∀ k, k ≠ 51 → F k = C k) → (∀ s, F 51 s = 0 ∨ F 51 s = 1) → P F (i : Int) := by
        intro m
        induction m with
        | zero =>
          intro i F hm hi hF h51
          exact hP F _ ⟨⟨by omega, by omega⟩, fun _ => second F (fun k _ _ c => hF k c) h51, fun c => by omega⟩
        | succ m ih =>
          intro i F hm hi hF h51
          refine hP F _ ⟨⟨by omega, by omega⟩, fun c => by omega, fun _ => ⟨by omega, fun G hG x hx => ?_⟩⟩
          have ex : x = ((i + 1 : Nat) : Int) := by omega
          rw [ex]
          refine ih (i + 1) G (by omega) (by omega) (fun k a => by rw [hG, hb_s_other a]; exact hF k a) (fun s => ?_)
          rw [hG, lq_s_fun]
          unfold hz_u
          split
          · exact Or.inl rfl
          · exact h51 s
      exact key _ 0 C rfl (by omega) (fun _ _ => rfl) (fun s => by rw [c0 51 (by decide)]; exact i9 s)
    · have v : ∀ q, q ≠ 6 → q ≠ 35 → q ≠ 36 → (q < 45 ∨ 48 < q) → z26 q = z15 q := fun q a b c e => by rw [h26, lp_U_other a]; exact w1 q b c (by omega) (by omega) (by omega) (by omega)
      have v5 : z26 5 = 0 := by rw [v 5 (by decide) (by decide) (by decide) (by decide)]; exact g5
      have p6 : z26 6 = z19 36 := by rw [h26, lp_U_same]
      have sR : sp_R T (z 5) (z19 35) (z26 6) := by
        rw [p6]
        rcases hO with ⟨-, h | ⟨k', σ, h1, h2, h3⟩⟩ | ⟨h, -⟩
        · exact Or.inr ⟨ok, hok, Or.inl ⟨nz, h⟩⟩
        · exact Or.inr ⟨ok, hok, Or.inr ⟨k', σ, h1, h2, Or.inr ⟨nz, by rw [h3, lst]⟩⟩⟩
        · exact absurd h nz
      have g35 : z26 35 = z19 35 := by rw [h26, lp_U_other (by decide)]
      refine hQ _ z26 C (kept z26 C hR v5 ?_ ?_ ?_ ?_) v5 (by first | exact sR | (rw [g35]; exact sR)) (fun q => absurd q (by first | exact nz | (rw [g35]; exact nz))) (fun _ => ⟨by rw [v 34 (by decide) (by decide) (by decide) (by decide)]; exact g 34 (by decide) (by decide) (by decide) (by decide), by rw [v 32 (by decide) (by decide) (by decide) (by decide)]; exact g 32 (by decide) (by decide) (by decide) (by decide), fun σ hs => mg_keep hd (by omega) (by omega) hR hX9 (mg_B b0 hs)⟩)
      · rw [v 34 (by decide) (by decide) (by decide) (by decide)]
        exact g 34 (by decide) (by decide) (by decide) (by decide)
      · rw [v 32 (by decide) (by decide) (by decide) (by decide)]
        exact g 32 (by decide) (by decide) (by decide) (by decide)
      · rw [v 33 (by decide) (by decide) (by decide) (by decide)]
        exact g 33 (by decide) (by decide) (by decide) (by decide)
      · rw [v 57 (by decide) (by decide) (by decide) (by decide)]
        exact g 57 (by decide) (by decide) (by decide) (by decide)
  · rcases hr with ⟨h, -⟩ | h <;> omega
  · have v : ∀ q, q ≠ 6 → z27 q = z15 q := fun q a => by rw [hz27, lp_U_other a]
    have v5 : z27 5 = 0 := by rw [v 5 (by decide)]; exact g5
    have sR : sp_R T (z 5) 1 (z27 6) := by
      rcases hr with ⟨h, -⟩ | ⟨h1, h2, h3⟩
      · omega
      · refine Or.inl ⟨r.toNat, h3, rfl, ?_⟩
        rw [hz27, lp_U_same]
        exact (TBB r.toNat (by omega)).2.1
    refine hQ _ z27 B (kept z27 B (mz_R_refl d B) v5 ?_ ?_ ?_ ?_) v5 sR (fun q => by omega) (fun _ => ⟨by rw [v 34 (by decide)]; exact g 34 (by decide) (by decide) (by decide) (by decide), by rw [v 32 (by decide)]; exact g 32 (by decide) (by decide) (by decide) (by decide), fun σ hs => mg_B b0 hs⟩)
    · rw [v 34 (by decide)]
      exact g 34 (by decide) (by decide) (by decide) (by decide)
    · rw [v 32 (by decide)]
      exact g 32 (by decide) (by decide) (by decide) (by decide)
    · rw [v 33 (by decide)]
      exact g 33 (by decide) (by decide) (by decide) (by decide)
    · rw [v 57 (by decide)]
      exact g 57 (by decide) (by decide) (by decide) (by decide)
