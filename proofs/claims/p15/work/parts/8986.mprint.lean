theorem nu_hs {A : Nat → Nat → Int} {i v : Int} {l : Nat} (h : l ≠ i.toNat) : hz_s A 56 i v 56 l = A 56 l := by
  rw [lq_s_fun]
  unfold hz_u
  rw [if_neg h]
theorem nu_mv {A B : Nat → Nat → Int} {u : Int} (h : mp_X A B) (u0 : 0 ≤ u) (u1 : u < 4250) (hu : u ≠ 4228) (hok : hb_ok A) : hb_v B u = hb_v A u ∧ hb_z B u = hb_z A u := by
  obtain ⟨a1, a2, a3⟩ := h.2 u u0 u1 hu
  have hW := (hok u u0 u1).1
  have e : hb_z B u = hb_z A u := by
    unfold hb_z
    rw [a1]
    exact hb_V_congr (fun j hj => by unfold hb_g; exact a3 (j : Int) (by omega) (by omega))
  refine ⟨?_, e⟩
  unfold hb_v
  rw [e, a2]
set_option maxHeartbeats 4000000 in
theorem wz_say {z : Nat → Int} {A : Nat → Nat → Int} {w : Int} {Q : (Nat → Int) → (Nat → Nat → Int) → Prop} (h0 : 0 ≤ w) (h1 : w < 4243) (hw : w ≠ 4228) (hok : hb_ok A) (hp0 : 0 ≤ z 57) (hp1 : z 57 + 940 ≤ 2000)
    (hQ : ∀ (k : Nat) B, nu_k (hb_z A w) k → k ≤ 940 → (∀ l, l < k → B 56 ((z 57).toNat + l) = nu_D (hb_z A w) k l) → (∀ i, i < (z 57).toNat → B 56 i = A 56 i) → mp_X A B → hb_ok B → Q (lp_U z 57 (z 57 + (k : Int))) B) : wp_say z A w Q := by
  have hWw := hok w h0 (by omega)
  have rw' : hb_r w = 130 := by unfold hb_r; rw [if_neg (by omega)]
  have r8 : hb_r 4228 = 130 := by decide
  have hlw := hWw.1
  obtain ⟨n0, hn0⟩ : ∃ n, n = hb_z A w := ⟨_, rfl⟩
  rw [← hn0] at hQ
  have n0n : 0 ≤ n0 := by rw [hn0]; exact hb_z_nonneg (hb_W_P hWw)
  obtain ⟨Y, hY⟩ : ∃ Y, Y = (z 57).toNat := ⟨_, rfl⟩
  rw [← hY] at hQ
  refine wq_bigCopy (by decide) (by decide) h0 (by omega) hw hWw (by rw [r8]; omega) (fun A15 hX15 hW15 hz15 hs15 hl15 x2 hx2 => ?_)
  have hok15 := hb_ok_one hok hX15 hW15
  have n0b : n0 < 10 ^ 940 := by
    rw [hn0]
    have h2 := hb_z_lt (hb_W_P hWw)
    have h3 : (16777216 : Int) ^ (A 1 w.toNat).toNat ≤ 16777216 ^ 130 := hb_pow_le (by omega)
    have := hb_130
    omega
  -- the digits stand the other way round first
  have turn : ∀ (j : Nat) (B : Nat → Nat → Int), nu_k n0 j → j ≤ 940 → mp_X A B → hb_ok B → (∀ i, i < Y → B 56 i = A 56 i) → (∀ l, l < j → B 56 (Y + l) = 48 + n0 / 10 ^ l % 10) → ∀ x4 : Int, x4 = z 57 + (j : Int) - 1 → wp_say_62 (lp_U z 57 (z 57 + (j : Int))) B x2 x4 Q := by
    intro j B0 hk hj hX0 hok0 lo0 d0 x4 hx4
    have hk1 := hk.1
    intro P hP
    have key : ∀ (k s : Nat) (p q : Int) (C : Nat → Nat → Int), j - s = k → s ≤ j → p = z 57 + (s : Int) → q = z 57 + (j : Int) - 1 - (s : Int) → mp_X A C → hb_ok C → (∀ i, i < Y → C 56 i = A 56 i) → nu_V (fun l => 48 + n0 / 10 ^ l % 10) j s (C 56) Y → P C p q := by
      intro k
      induction k with
      | zero =>
        intro s p q C hk' hs ep eq hXC hokC loC vC
        refine hP C p q ⟨⟨by omega, by omega⟩, ⟨by omega, by omega⟩, fun _ => ?_, fun c => by omega⟩
        have en := nu_V_end vC (by omega)
        exact hQ j C hk hj (fun l hl => en l hl) loC hXC hokC
      | succ k ih =>
        intro s p q C hk' hs ep eq hXC hokC loC vC
        refine hP C p q ⟨⟨by omega, by omega⟩, ⟨by omega, by omega⟩, fun c => ?_, fun c => ⟨⟨by omega, by omega⟩, fun x5 hx5 => ⟨⟨by omega, by omega⟩, ⟨by omega, by omega⟩, fun C3 hC3 => ⟨⟨by omega, by omega⟩, fun C4 hC4 i2 hi2' j2 hj2' => ?_⟩⟩⟩⟩
        · have en := nu_V_end vC (by omega)
          exact hQ j C hk hj (fun l hl => en l hl) loC hXC hokC
        · have hK : lq_K 56 C C4 := lq_K_trans (B := C3) (by rw [hC3]; exact lq_K_s _ _ _ _) (by rw [hC4]; exact lq_K_s _ _ _ _)
          have tp : p.toNat = Y + s := by omega
          have tq : q.toNat = Y + (j - 1 - s) := by omega
          have npq : Y + s ≠ Y + (j - 1 - s) := by omega
          have g1 : C4 56 (Y + s) = C 56 (Y + (j - 1 - s)) := by
            rw [hC4, nu_hs (by rw [tq]; exact npq), hC3, ← tp, hb_s_same, tq]
          have g2 : C4 56 (Y + (j - 1 - s)) = C 56 (Y + s) := by
            rw [hC4, ← tq, hb_s_same, hx5, tp]
          have g3 : ∀ i, i ≠ Y + s → i ≠ Y + (j - 1 - s) → C4 56 i = C 56 i := fun i i1 i2 => by
            rw [hC4, nu_hs (by rw [tq]; exact i2), hC3, nu_hs (by rw [tp]; exact i1)]
          exact ih (s + 1) i2 j2 C4 (by omega) (by omega) (by omega) (by omega) (mp_X_trans hXC (mp_X_K hK)) (hb_ok_K (by decide) hK hokC) (fun i hi => by rw [g3 i (by omega) (by omega)]; exact loC i hi) (nu_V_step vC (by omega) g1 g2 g3)
    refine key j 0 x2 x4 B0 (by omega) (by omega) (by omega) (by omega) hX0 hok0 lo0 (fun l hl => ?_)
    rw [if_neg (by omega)]
    exact d0 l hl
  intro P hP
  have key : ∀ (k i : Nat) (B : Nat → Nat → Int), 939 - i = k → i ≤ 939 → (1 ≤ i → 10 ^ i ≤ n0) → mp_X A B → hb_ok B → hb_z B 4228 = n0 / 10 ^ i → (∀ l, l < Y → B 56 l = A 56 l) → (∀ l, l < i → B 56 (Y + l) = 48 + n0 / 10 ^ l % 10) → P (lp_U z 57 (z 57 + i)) B := by
    intro k
    induction k with
    | zero =>
      intro i B hk hi hp hX hokB hz lo d
      have ei : i = 939 := by omega
      have e57 : lp_U z 57 (z 57 + ((i : Nat) : Int)) 57 = z 57 + ((i : Nat) : Int) := lp_U_same _ _ _
      refine hP _ B (wq_bigTenth (by decide) (by decide) (hokB 4228 (by decide) (by decide)) (fun C hXC hWC hzC => ?_))
      have hokC := hb_ok_one hokB hXC hWC
      rw [e57]
      refine ⟨⟨by omega, by omega⟩, fun D hD z10 hz10 => ?_⟩
      have hK : lq_K 56 C D := by rw [hD]; exact lq_K_s _ _ _ _
      have hokD := hb_ok_K (by decide) hK hokC
      have ezD : hb_z D 4228 = hb_z C 4228 := (hb_arr (hK 0 (by decide)) (hK 1 (by decide)) (hK 2 (by decide))).2.2 4228
      have nx : hb_z C 4228 = n0 / 10 ^ (i + 1) := by rw [hzC, hz, nu_div10]
      have hzz : hb_z C 4228 = 0 := by
        rw [nx, ei]
        exact Int.ediv_eq_zero_of_lt n0n n0b
      have C56 : C 56 = B 56 := hXC.1 56 (by decide)
      have ti : (z 57 + (i : Int)).toNat = Y + i := by omega
      refine wq_bigIsZero (by decide) (by decide) (hokD 4228 (by decide) (by decide)) ?_
      rw [ezD, if_pos hzz]
      refine ⟨⟨by decide, by decide⟩, fun c => by omega, fun _ x4 hx4 => ?_⟩
      rw [hz10, lp_U_U] at hx4 ⊢
      rw [lp_U_same] at hx4
      have e2 : z 57 + (i : Int) + 1 = z 57 + ((i + 1 : Nat) : Int) := by omega
      rw [e2] at hx4 ⊢
      refine turn (i + 1) D ⟨by omega, nu_zero n0n (by rw [← nx]; exact hzz), fun c => by rw [Nat.add_sub_cancel]; exact hp (by omega)⟩ (by omega) (mp_X_trans hX (mp_X_trans (mp_X_X hXC) (mp_X_K hK))) hokD (fun l hl => by rw [hD, nu_hs (by omega), C56]; exact lo l hl) (fun l hl => ?_) x4 hx4
      by_cases c : l = i
      · rw [c, hD, ← ti, hb_s_same, hz]
      · rw [hD, nu_hs (by omega), C56]
        exact d l (by omega)
    | succ k ih =>
      intro i B hk hi hp hX hokB hz lo d
      have e57 : lp_U z 57 (z 57 + ((i : Nat) : Int)) 57 = z 57 + ((i : Nat) : Int) := lp_U_same _ _ _
      refine hP _ B (wq_bigTenth (by decide) (by decide) (hokB 4228 (by decide) (by decide)) (fun C hXC hWC hzC => ?_))
      have hokC := hb_ok_one hokB hXC hWC
      rw [e57]
      refine ⟨⟨by omega, by omega⟩, fun D hD z10 hz10 => ?_⟩
      have hK : lq_K 56 C D := by rw [hD]; exact lq_K_s _ _ _ _
      have hokD := hb_ok_K (by decide) hK hokC
      have ezD : hb_z D 4228 = hb_z C 4228 := (hb_arr (hK 0 (by decide)) (hK 1 (by decide)) (hK 2 (by decide))).2.2 4228
      have hXD := mp_X_trans hX (mp_X_trans (mp_X_X hXC) (mp_X_K hK))
      have nx : hb_z C 4228 = n0 / 10 ^ (i + 1) := by rw [hzC, hz, nu_div10]
      have C56 : C 56 = B 56 := hXC.1 56 (by decide)
      have ti : (z 57 + (i : Int)).toNat = Y + i := by omega
      have loD : ∀ l, l < Y → D 56 l = A 56 l := fun l hl => by rw [hD, nu_hs (by omega), C56]; exact lo l hl
      have dD : ∀ l, l < i + 1 → D 56 (Y + l) = 48 + n0 / 10 ^ l % 10 := fun l hl => by
        by_cases c : l = i
        · rw [c, hD, ← ti, hb_s_same, hz]
        · rw [hD, nu_hs (by omega), C56]
          exact d l (by omega)
      have e2 : z 57 + (i : Int) + 1 = z 57 + ((i + 1 : Nat) : Int) := by omega
      refine wq_bigIsZero (by decide) (by decide) (hokD 4228 (by decide) (by decide)) ⟨by split <;> exact ⟨by decide, by decide⟩, fun c => ?_, fun c x4 hx4 => ?_⟩
      · have nz : ¬ hb_z D 4228 = 0 := fun q => by rw [if_pos q] at c; exact absurd c (by decide)
        rw [hz10, lp_U_U, e2]
        exact ih (i + 1) D (by omega) (by omega) (fun _ => nu_some n0n (by rw [← nx, ← ezD]; exact nz)) hXD hokD (by rw [ezD, nx]) loD dD
      · have nz : hb_z D 4228 = 0 := by
          apply Classical.byContradiction
          intro q
          rw [if_neg q] at c
          exact c rfl
        rw [hz10, lp_U_U] at hx4 ⊢
        rw [lp_U_same] at hx4
        rw [e2] at hx4 ⊢
        exact turn (i + 1) D ⟨by omega, nu_zero n0n (by rw [← nx, ← ezD]; exact nz), fun c => by rw [Nat.add_sub_cancel]; exact hp (by omega)⟩ (by omega) hXD hokD loD dD x4 hx4
  have h := key _ 0 A15 rfl (by omega) (fun c => by omega) (mp_X_X hX15) hok15 (by rw [hz15, Int.pow_zero, Int.ediv_one, hn0]) (fun l _ => by rw [hX15.1 56 (by decide)]) (fun l hl => by omega)
  have e : lp_U z 57 (z 57 + ((0 : Nat) : Int)) = z := by
    have : z 57 + ((0 : Nat) : Int) = z 57 := by omega
    rw [this, lp_U_self]
  rw [e] at h
  exact h
theorem wz_has {z : Nat → Int} {A : Nat → Nat → Int} {w : Int} {Q : Int → Prop} (hw : hz_rI w) (hth : ∀ s, A 51 s = 0 ∨ A 51 s = 1) (h1 : (0 ≤ w ∧ w < 4 ∧ A 51 w.toNat = 1) → Q 1) (h0 : ¬ (0 ≤ w ∧ w < 4 ∧ A 51 w.toNat = 1) → Q 0) : wp_has z A w Q := by
  refine ⟨hw, fun c => ⟨Or.inl rfl, h0 (by omega)⟩, fun c => ⟨hw, fun d => ⟨Or.inl rfl, h0 (by omega)⟩, fun d => ⟨⟨by omega, by omega⟩, ?_, fun e => ⟨Or.inl rfl, h0 (fun q => by have := q.2.2; omega)⟩, fun e => ⟨Or.inr rfl, h1 ⟨by omega, by omega, (hth w.toNat).resolve_left e⟩⟩⟩⟩⟩
  rcases hth w.toNat with h | h <;> rw [h] <;> exact ⟨by decide, by decide⟩
set_option maxHeartbeats 4000000 in
theorem wz_print {z : Nat → Int} {A : Nat → Nat → Int} {w : Int} {Q : Int → (Nat → Int) → (Nat → Nat → Int) → Prop} (hw : hz_rI w) (hok : hb_ok A) (hth : ∀ s, A 51 s = 0 ∨ A 51 s = 1) (hbp : (0 ≤ w ∧ w < 4 ∧ A 51 w.toNat = 1) → 0 < hb_v A (4231 + 2 * w + 1))
    (hQ : ∀ r z' B, (∀ k, k ≠ 3 → k ≠ 57 → z' k = z k) → (∀ k, 2 < k → k ≠ 56 → B k = A k) → hb_ok B → (∀ u : Int, 0 ≤ u → u < 4250 → u ≠ 4228 → hb_v B u = hb_v A u) → ((¬ (0 ≤ w ∧ w < 4 ∧ A 51 w.toNat = 1) ∧ r = -1 ∧ z' 57 = z 57 ∧ B = A) ∨ ((0 ≤ w ∧ w < 4 ∧ A 51 w.toNat = 1) ∧ z' 57 = r ∧ (0 ≤ r ∧ r ≤ 2000) ∧ nu_P (hb_v A (4231 + 2 * w)) (hb_v A (4231 + 2 * w + 1)) r (B 56))) → Q r z' B) : wp_print z A w Q := by
  intro z1 hz1
  refine wz_has hw hth (fun hc => ⟨⟨by decide, by decide⟩, fun _ f hf z15 hz15 => ?_, fun c => absurd c (by decide)⟩) (fun hc => ⟨⟨by decide, by decide⟩, fun c => absurd rfl c, fun _ => ?_⟩)
  · have hw2 : 0 ≤ w ∧ w < 4 := ⟨hc.1, hc.2.1⟩
    have hbp := hbp hc
    rw [← hf] at hbp hQ
    have zf := hb_z_abs (hok f (by omega) (by omega))
    have zb := hb_z_abs (hok (f + 1) (by omega) (by omega))
    have zk : ∀ k, k ≠ 3 → k ≠ 57 → z15 k = z k := fun k k3 k57 => by rw [hz15, lp_U_other k57, hz1, lp_U_other k3]
    have last : ∀ (z0 : Nat → Int) (B0 : Nat → Nat → Int) (s : Nat), (∀ k, k ≠ 3 → k ≠ 57 → z0 k = z k) → z0 57 = (s : Int) → ((s : Int) = if hb_v A f < 0 then 1 else 0) → (hb_v A f < 0 → B0 56 0 = 45) → mp_X A B0 → hb_ok B0 → wp_print_49 z0 B0 f Q := by
      intro z0 B0 s hz0 p0 hs h45 hB0 hok0
      have s1 : s ≤ 1 := by
        by_cases c : hb_v A f < 0
        · rw [if_pos c] at hs; omega
        · rw [if_neg c] at hs; omega
      have vf := nu_mv hB0 (u := f) (by omega) (by omega) (by omega) hok
      refine wz_say (by omega) (by omega) (by omega) hok0 (by omega) (by omega) (fun k B nk hk dk lo hXB hokB => ?_)
      rw [p0, Int.toNat_natCast] at dk lo
      rw [vf.2, zf] at nk dk
      have XB := mp_X_trans hB0 hXB
      have vb := nu_mv XB (u := f + 1) (by omega) (by omega) (by omega) hok
      refine wq_bigIsOne (by omega) (by omega) (hokB _ (by omega) (by omega)) ⟨by split <;> exact ⟨by decide, by decide⟩, fun d => ?_, fun d => ?_⟩
      · have one : hb_v A (f + 1) = 1 := by
          rw [vb.2] at d
          apply Classical.byContradiction
          intro q
          rw [if_neg (by omega)] at d
          exact d rfl
        refine hQ _ _ B (fun k k3 k57 => by rw [lp_U_other k57]; exact hz0 k k3 k57) (fun k a b => XB.1 k a b) hokB (fun u a b c => (nu_mv XB a b c hok).1) (Or.inr ⟨hc, rfl, ?_, ?_⟩)
        · rw [lp_U_same]
          omega
        · rw [lp_U_same, p0]
          refine ⟨s, k, hs, nk, fun q => ?_, dk, Or.inl ⟨one, rfl⟩⟩
          rw [if_pos q] at hs
          rw [lo 0 (by omega)]
          exact h45 q
      · have one : ¬ hb_v A (f + 1) = 1 := fun q => by
          rw [vb.2, if_pos (by omega)] at d
          exact absurd d (by decide)
        rw [lp_U_same]
        refine ⟨⟨by omega, by omega⟩, fun B6 hB6 z7 hz7 => ?_⟩
        have hK : lq_K 56 B B6 := by rw [hB6]; exact lq_K_s _ _ _ _
        have X6 := mp_X_trans XB (mp_X_K hK)
        have ok6 := hb_ok_K (q := 56) (by decide) hK hokB
        rw [lp_U_U] at hz7
        have e57 : z7 57 = z0 57 + (k : Int) + 1 := by rw [hz7, lp_U_same]
        have v6 := nu_mv X6 (u := f + 1) (by omega) (by omega) (by omega) hok
        have tk : (z0 57 + (k : Int)).toNat = s + k := by omega
        have tk1 : (z7 57).toNat = s + k + 1 := by omega
        refine wz_say (by omega) (by omega) (by omega) ok6 (by omega) (by omega) (fun k2 B9 nk2 hk2 dk2 lo2 hXB9 hokB9 => ?_)
        rw [tk1] at dk2 lo2
        rw [v6.2, zb, show (((hb_v A (f + 1)).natAbs : Nat) : Int) = hb_v A (f + 1) by omega] at nk2 dk2
        have X9 := mp_X_trans X6 hXB9
        have keep : ∀ i, i < s + k → B9 56 i = B 56 i := fun i hi => by rw [lo2 i (by omega), hB6, nu_hs (by rw [tk]; omega)]
        refine hQ _ _ B9 (fun k k3 k57 => ?_) (fun k a b => X9.1 k a b) hokB9 (fun u a b c => (nu_mv X9 a b c hok).1) (Or.inr ⟨hc, rfl, ?_, ?_⟩)
        · rw [lp_U_other k57, hz7, lp_U_other k57]
          exact hz0 k k3 k57
        · rw [lp_U_same]
          omega
        · rw [lp_U_same, e57, p0]
          refine ⟨s, k, hs, nk, fun q => ?_, fun l hl => by rw [keep _ (by omega)]; exact dk l hl, Or.inr ⟨one, ?_, k2, nk2, dk2, by omega⟩⟩
          · rw [if_pos q] at hs
            rw [keep 0 (by omega), lo 0 (by omega)]
            exact h45 q
          · rw [lo2 _ (by omega), hB6, ← tk, hb_s_same]
    refine wq_bigSign (by omega) (by omega) (hok _ (by omega) (by omega)) ⟨hb_sgn_r _, fun d => ?_, fun d A18 hA18 z19 hz19 => ?_⟩
    · have nn : ¬ hb_v A f < 0 := fun q => by
        have := Int.sign_nonneg_iff.mp d
        omega
      exact last z15 A 0 zk (by rw [hz15, lp_U_same]; rfl) (by rw [if_neg nn]; rfl) (fun q => absurd q nn) (mp_X_refl A) hok
    · have nn : hb_v A f < 0 := by
        apply Classical.byContradiction
        intro q
        exact d (Int.sign_nonneg_iff.mpr (by omega))
      have hK : lq_K 56 A A18 := by rw [hA18]; exact lq_K_s _ _ _ _
      exact last z19 A18 1 (fun k k3 k57 => by rw [hz19, lp_U_other k57]; exact zk k k3 k57) (by rw [hz19, lp_U_same]; rfl) (by rw [if_pos nn]; rfl) (fun _ => by rw [hA18]; exact hb_s_same _ _ _ _) (mp_X_K hK) (hb_ok_K (by decide) hK hok)
  · exact hQ _ _ A (fun k k3 k57 => by rw [hz1, lp_U_other k3]) (fun _ _ _ => rfl) hok (fun _ _ _ _ => rfl) (Or.inl ⟨hc, rfl, by rw [hz1, lp_U_other (by decide)], rfl⟩)
