-- 45.print
theorem wq_bigTenth {z : Nat → Int} {A : Nat → Nat → Int} {w : Int} {Q : Int → (Nat → Nat → Int) → Prop} (h0 : 0 ≤ w) (h1 : w < 4250) (hW : hb_W A w)
    (hQ : ∀ B, hb_X (fun x => x = w) A B → hb_W B w → hb_z B w = hb_z A w / 10 → Q (hb_z A w % 10) B) : wp_bigTenth z A w Q := by
  have hr := hb_r_pos w
  have hl := hW.1
  obtain ⟨n, hn⟩ : ∃ n : Nat, (A 1 w.toNat).toNat = n := ⟨_, rfl⟩
  have en : A 1 w.toNat = (n : Int) := by omega
  have dA := hW.2.2.1
  rw [hn] at dA
  refine ⟨⟨h0, h1⟩, fun x hx => ?_⟩
  intro P hP
  have key : ∀ (p : Nat) (B : Nat → Nat → Int) (left : Int), p ≤ n → 0 ≤ left → left < 10 → hb_X (fun x => x = w) A B → B 1 w.toNat = (n : Int) → B 2 w.toNat = A 2 w.toNat → (∀ j : Nat, p ≤ j → j < n → 0 ≤ hb_g B w j ∧ hb_g B w j < 16777216) → (∀ j : Nat, j < p → hb_g B w j = hb_g A w j) →
      hb_V (hb_T (hb_g A w) ((p : Int) - 1)) n = 10 * hb_V (hb_T (hb_g B w) ((p : Int) - 1)) n + left * 16777216 ^ p → P B left ((p : Int) - 1) := by
    intro p
    induction p with
    | zero =>
      intro B left hp l0 l1 hX hB1 hB2 hD hlow hV
      refine hP B left _ ⟨⟨by omega, by omega⟩, fun _ => ?_, fun c => by omega⟩
      have e1 : hb_V (hb_T (hb_g A w) (((0 : Nat) : Int) - 1)) n = hb_z A w := by
        unfold hb_z
        rw [hn]
        exact hb_V_congr (fun j hj => if_pos (by omega))
      have e2 : hb_V (hb_T (hb_g B w) (((0 : Nat) : Int) - 1)) n = hb_V (hb_g B w) n := hb_V_congr (fun j hj => if_pos (by omega))
      rw [e1, e2, Int.pow_zero, Int.mul_one] at hV
      refine wq_bigTrim h0 h1 ⟨by rw [hB1]; omega, by rw [hB2]; exact hW.2.1, by rw [hB1]; exact fun j hj => hD j (by omega) (by omega)⟩ (fun B3 hX3 hW3 hz3 hs3 _ => ?_)
      have ez : hb_z B3 w = hb_V (hb_g B w) n := by
        rw [hz3]
        unfold hb_z
        rw [hB1]
        rfl
      have hq := hQ B3 (hb_X_trans hX hX3) hW3 (by rw [ez, hV]; omega)
      have el : hb_z A w % 10 = left := by rw [hV]; omega
      rw [el] at hq
      exact hq
    | succ p ih =>
      intro B left hp l0 l1 hX hB1 hB2 hD hlow hV
      have eup : ((p + 1 : Nat) : Int) - 1 = (p : Int) := by omega
      rw [eup] at hV ⊢
      have rd := dA p (by omega)
      have eold : B 0 (hb_f w + (p : Int)).toNat = hb_g A w p := hlow p (by omega)
      refine hP B left _ ⟨⟨by omega, by omega⟩, fun c => by omega, fun c => wq_from h0 h1 ⟨hb_f_in h0 h1 (by omega) (by omega), fun v hv => wq_from h0 h1 ⟨?_, hb_f_in h0 h1 (by omega) (by omega), fun B2 hB2' => ⟨?_, fun l2 hl2 x2 hx2 => ?_⟩⟩⟩⟩
      · rw [eold] at hv
        exact ⟨by omega, by omega⟩
      · rw [eold] at hv
        exact ⟨by omega, by omega⟩
      · rw [eold] at hv
        have hv0 : 0 ≤ v := by omega
        rw [Int.tdiv_eq_ediv_of_nonneg hv0] at hB2'
        rw [Int.tmod_eq_emod_of_nonneg hv0] at hl2
        have hX2 : hb_X (fun x => x = w) A B2 := hb_X_trans hX (by rw [hB2']; exact hb_X_s0 h0 h1 (by omega) (by omega))
        have hg : ∀ j : Nat, (j : Int) < hb_r w → hb_g B2 w j = if j = p then v / 10 else hb_g B w j := fun j hj => by
          rw [hB2', hb_g_s0 h0 h1 (by omega) (by omega) j hj]
          by_cases e : j = p
          · rw [if_pos e, if_pos (by omega)]
          · rw [if_neg e, if_neg (by omega)]
        have ex : x2 = (p : Int) - 1 := by omega
        rw [ex]
        refine ih B2 l2 (by omega) (by omega) (by omega) hX2 (by rw [hB2', hb_s_other (by decide)]; exact hB1) (by rw [hB2', hb_s_other (by decide)]; exact hB2) ?_ ?_ ?_
        · intro j j1 j2
          rw [hg j (by omega)]
          split
          · omega
          · exact hD j (by omega) j2
        · intro j hj
          rw [hg j (by omega), if_neg (by omega)]
          exact hlow j (by omega)
        · have eA : hb_V (hb_T (hb_g A w) ((p : Int) - 1)) n = hb_V (hb_T (hb_g A w) (p : Int)) n + (hb_g A w p - hb_T (hb_g A w) (p : Int) p) * 16777216 ^ p := by
            refine hb_V_set (q := p) (v := hb_g A w p) (by omega) (fun j hj => ?_)
            unfold hb_T
            by_cases e : j = p
            · subst e
              rw [if_pos rfl, if_pos (by omega)]
            · rw [if_neg e]
              by_cases e2 : (p : Int) < j
              · rw [if_pos (by omega), if_pos e2]
              · rw [if_neg (by omega), if_neg e2]
          have eB : hb_V (hb_T (hb_g B2 w) ((p : Int) - 1)) n = hb_V (hb_T (hb_g B w) (p : Int)) n + (v / 10 - hb_T (hb_g B w) (p : Int) p) * 16777216 ^ p := by
            refine hb_V_set (q := p) (v := v / 10) (by omega) (fun j hj => ?_)
            unfold hb_T
            by_cases e : j = p
            · subst e
              rw [if_pos rfl, if_pos (by omega), hg j (by omega), if_pos rfl]
            · rw [if_neg e]
              by_cases e2 : (p : Int) < j
              · rw [if_pos (by omega), if_pos e2, hg j (by omega), if_neg e]
              · rw [if_neg (by omega), if_neg e2]
          have e0 : hb_T (hb_g A w) (p : Int) p = 0 := if_neg (by omega)
          have e0' : hb_T (hb_g B w) (p : Int) p = 0 := if_neg (by omega)
          rw [eA, eB, e0, e0', hV, hl2, Int.pow_succ]
          have hdm : v % 10 + 10 * (v / 10) = v := Int.emod_add_mul_ediv v 10
          have e5 : 10 * (v / 10) * 16777216 ^ p + v % 10 * 16777216 ^ p = v * 16777216 ^ p := by
            have : v * 16777216 ^ p = (v % 10 + 10 * (v / 10)) * 16777216 ^ p := by rw [hdm]
            rw [this]
            grind
          have e6 : v * 16777216 ^ p = left * (16777216 ^ p * 16777216) + hb_g A w p * 16777216 ^ p := by
            rw [hv]
            grind
          grind
  have hk := key n A 0 (Nat.le_refl n) (by omega) (by omega) (hb_X_refl _ A) en rfl (fun j j1 j2 => by omega) (fun _ _ => rfl) (by
    rw [hb_V_zeros (g := hb_T (hb_g A w) ((n : Int) - 1)) (n := 0) (m := n) (by omega) (fun j _ hj => if_neg (by omega))]
    simp [hb_V])
  have ex : x = (n : Int) - 1 := by omega
  rw [ex]
  exact hk
/-- printing leaves all alone but register 4228 and what is printed -/
noncomputable def mp_X (A B : Nat → Nat → Int) : Prop := (∀ k, 2 < k → k ≠ 56 → B k = A k) ∧ ∀ u, 0 ≤ u → u < 4250 → u ≠ 4228 → B 1 u.toNat = A 1 u.toNat ∧ B 2 u.toNat = A 2 u.toNat ∧ ∀ i : Int, 0 ≤ i → i < hb_r u → B 0 (hb_f u + i).toNat = A 0 (hb_f u + i).toNat
theorem mp_X_refl (A : Nat → Nat → Int) : mp_X A A := ⟨fun _ _ _ => rfl, fun _ _ _ _ => ⟨rfl, rfl, fun _ _ _ => rfl⟩⟩
theorem mp_X_trans {A B C : Nat → Nat → Int} (h1 : mp_X A B) (h2 : mp_X B C) : mp_X A C :=
  ⟨fun k a b => (h2.1 k a b).trans (h1.1 k a b), fun u a b c => by
    obtain ⟨x1, x2, x3⟩ := h1.2 u a b c
    obtain ⟨y1, y2, y3⟩ := h2.2 u a b c
    exact ⟨y1.trans x1, y2.trans x2, fun i hi hj => (y3 i hi hj).trans (x3 i hi hj)⟩⟩
theorem mp_X_X {A B : Nat → Nat → Int} (h : hb_X (fun x => x = 4228) A B) : mp_X A B := ⟨fun k a _ => h.1 k a, h.2⟩
theorem mp_X_K {A B : Nat → Nat → Int} (h : lq_K 56 A B) : mp_X A B := ⟨fun k _ b => h k b, fun u _ _ _ => by rw [h 0 (by decide), h 1 (by decide), h 2 (by decide)]; exact ⟨rfl, rfl, fun _ _ _ => rfl⟩⟩
theorem hb_130 : (16777216 : Int) ^ 130 ≤ 10 ^ 940 := by decide +kernel
theorem hb_10 (n : Nat) : (0 : Int) < 10 ^ n := Int.pow_pos (by decide)
theorem wq_say {z : Nat → Int} {A : Nat → Nat → Int} {w : Int} {Q : (Nat → Int) → (Nat → Nat → Int) → Prop} (h0 : 0 ≤ w) (h1 : w < 4243) (hw : w ≠ 4228) (hok : hb_ok A) (hp0 : 0 ≤ z 57) (hp1 : z 57 + 940 ≤ 2000)
    (hQ : ∀ n B, z 57 ≤ n → n ≤ z 57 + 940 → mp_X A B → hb_ok B → Q (lp_U z 57 n) B) : wp_say z A w Q := by
  have hWw := hok w h0 (by omega)
  have rw' : hb_r w = 130 := by unfold hb_r; rw [if_neg (by omega)]
  have r8 : hb_r 4228 = 130 := by decide
  have hlw := hWw.1
  refine wq_bigCopy (by decide) (by decide) h0 (by omega) hw hWw (by rw [r8]; omega) (fun A15 hX15 hW15 hz15 hs15 hl15 x2 hx2 => ?_)
  have hok15 := hb_ok_one hok hX15 hW15
  have hz0 : hb_z A15 4228 < 10 ^ 940 := by
    rw [hz15]
    have h2 := hb_z_lt (hb_W_P hWw)
    have h3 : (16777216 : Int) ^ (A 1 w.toNat).toNat ≤ 16777216 ^ 130 := hb_pow_le (by omega)
    have := hb_130
    omega
  -- the digits stand the other way round first
  have turn : ∀ (n : Int) (B : Nat → Nat → Int), z 57 ≤ n → n ≤ z 57 + 940 → mp_X A B → hb_ok B → ∀ i j : Int, 0 ≤ i → i < 4000 → -1000 ≤ j → j < 2000 → wp_say_62 (lp_U z 57 n) B i j Q := by
    intro n B0 hn hn2 hX0 hok0 i0 j0 a1 a2 a3 a4
    intro P hP
    have key : ∀ (k : Nat) (i j : Int) (C : Nat → Nat → Int), (j - i).toNat = k → 0 ≤ i → i < 4000 → -1000 ≤ j → j < 2000 → mp_X A C → hb_ok C → P C i j := by
      intro k
      induction k using Nat.strongRecOn with
      | ind k ih =>
        intro i j C hk hi hi2 hj0 hj hXC hokC
        refine hP C i j ⟨⟨by omega, by omega⟩, ⟨by omega, by omega⟩, fun _ => hQ n C hn hn2 hXC hokC, fun c => ⟨⟨hi, by omega⟩, fun x5 hx5 => ⟨⟨by omega, hj⟩, ⟨hi, by omega⟩, fun C3 hC3 => ⟨⟨by omega, hj⟩, fun C4 hC4 i2 hi2' j2 hj2' => ?_⟩⟩⟩⟩
        have hK : lq_K 56 C C4 := lq_K_trans (B := C3) (by rw [hC3]; exact lq_K_s _ _ _ _) (by rw [hC4]; exact lq_K_s _ _ _ _)
        exact ih (j2 - i2).toNat (by omega) i2 j2 C4 rfl (by omega) (by omega) (by omega) (by omega) (mp_X_trans hXC (mp_X_K hK)) (hb_ok_K (by decide) hK hokC)
    exact key _ i0 j0 B0 rfl a1 a2 a3 a4 hX0 hok0
  intro P hP
  have key : ∀ (k i : Nat) (B : Nat → Nat → Int), 939 - i = k → i ≤ 939 → mp_X A B → hb_ok B → hb_z B 4228 < 10 ^ (940 - i) → P (lp_U z 57 (z 57 + i)) B := by
    intro k
    induction k with
    | zero =>
      intro i B hk hi hX hokB hz
      have ei : i = 939 := by omega
      subst ei
      have e57 : lp_U z 57 (z 57 + ((939 : Nat) : Int)) 57 = z 57 + ((939 : Nat) : Int) := lp_U_same _ _ _
      refine hP _ B (wq_bigTenth (by decide) (by decide) (hokB 4228 (by decide) (by decide)) (fun C hXC hWC hzC => ?_))
      have hokC := hb_ok_one hokB hXC hWC
      have nC := hb_z_nonneg (hb_W_P hWC)
      have hzz : hb_z C 4228 = 0 := by
        rw [hzC] at nC ⊢
        have e : (10 : Int) ^ (940 - 939) = 10 := by decide
        rw [e] at hz
        have := hb_z_nonneg (hb_W_P (hokB 4228 (by decide) (by decide)))
        omega
      rw [e57]
      refine ⟨⟨by omega, by omega⟩, fun D hD z10 hz10 => ?_⟩
      have hK : lq_K 56 C D := by rw [hD]; exact lq_K_s _ _ _ _
      have hokD := hb_ok_K (by decide) hK hokC
      have ezD : hb_z D 4228 = hb_z C 4228 := (hb_arr (hK 0 (by decide)) (hK 1 (by decide)) (hK 2 (by decide))).2.2 4228
      refine wq_bigIsZero (by decide) (by decide) (hokD 4228 (by decide) (by decide)) ?_
      rw [ezD, if_pos hzz]
      refine ⟨⟨by decide, by decide⟩, fun c => by omega, fun _ x4 hx4 => ?_⟩
      rw [hz10, lp_U_U] at hx4 ⊢
      rw [lp_U_same] at hx4
      exact turn _ D (by omega) (by omega) (mp_X_trans hX (mp_X_trans (mp_X_X hXC) (mp_X_K hK))) hokD x2 x4 (by omega) (by omega) (by omega) (by omega)
    | succ k ih =>
      intro i B hk hi hX hokB hz
      have e57 : lp_U z 57 (z 57 + ((i : Nat) : Int)) 57 = z 57 + ((i : Nat) : Int) := lp_U_same _ _ _
      refine hP _ B (wq_bigTenth (by decide) (by decide) (hokB 4228 (by decide) (by decide)) (fun C hXC hWC hzC => ?_))
      have hokC := hb_ok_one hokB hXC hWC
      rw [e57]
      refine ⟨⟨by omega, by omega⟩, fun D hD z10 hz10 => ?_⟩
      have hK : lq_K 56 C D := by rw [hD]; exact lq_K_s _ _ _ _
      have hokD := hb_ok_K (by decide) hK hokC
      have ezD : hb_z D 4228 = hb_z C 4228 := (hb_arr (hK 0 (by decide)) (hK 1 (by decide)) (hK 2 (by decide))).2.2 4228
      have hXD := mp_X_trans hX (mp_X_trans (mp_X_X hXC) (mp_X_K hK))
      refine wq_bigIsZero (by decide) (by decide) (hokD 4228 (by decide) (by decide)) ⟨by split <;> exact ⟨by decide, by decide⟩, fun c => ?_, fun c x4 hx4 => ?_⟩
      · rw [hz10, lp_U_U]
        have e2 : z 57 + (i : Int) + 1 = z 57 + ((i + 1 : Nat) : Int) := by omega
        rw [e2]
        refine ih (i + 1) D (by omega) (by omega) hXD hokD ?_
        rw [ezD, hzC]
        have e3 : 940 - i = (940 - (i + 1)) + 1 := by omega
        rw [e3, Int.pow_succ] at hz
        omega
      · rw [hz10, lp_U_U] at hx4 ⊢
        rw [lp_U_same] at hx4
        exact turn _ D (by omega) (by omega) hXD hokD x2 x4 (by omega) (by omega) (by omega) (by omega)
  have h := key _ 0 A15 rfl (by omega) (mp_X_X hX15) hok15 hz0
  have e : lp_U z 57 (z 57 + ((0 : Nat) : Int)) = z := by
    have : z 57 + ((0 : Nat) : Int) = z 57 := by omega
    rw [this, lp_U_self]
  rw [e] at h
  exact h
theorem wq_has {z : Nat → Int} {A : Nat → Nat → Int} {w : Int} {Q : Int → Prop} (hw : hz_rI w) (hth : ∀ s, A 51 s = 0 ∨ A 51 s = 1) (hQ : ∀ r, (r = 0 ∨ r = 1 ∧ 0 ≤ w ∧ w < 4) → Q r) : wp_has z A w Q := by
  refine ⟨hw, fun c => ⟨Or.inl rfl, hQ 0 (Or.inl rfl)⟩, fun c => ⟨hw, fun d => ⟨Or.inl rfl, hQ 0 (Or.inl rfl)⟩, fun d => ⟨⟨by omega, by omega⟩, ?_, fun e => ⟨Or.inl rfl, hQ 0 (Or.inl rfl)⟩, fun e => ⟨Or.inr rfl, hQ 1 (Or.inr ⟨rfl, by omega, by omega⟩)⟩⟩⟩⟩
  rcases hth w.toNat with h | h <;> rw [h] <;> exact ⟨by decide, by decide⟩
theorem wq_print {z : Nat → Int} {A : Nat → Nat → Int} {w : Int} {Q : Int → (Nat → Int) → (Nat → Nat → Int) → Prop} (hw : hz_rI w) (hok : hb_ok A) (hth : ∀ s, A 51 s = 0 ∨ A 51 s = 1)
    (hQ : ∀ r z' B, (∀ k, k ≠ 3 → k ≠ 57 → z' k = z k) → (z' 57 = z 57 ∨ (0 ≤ z' 57 ∧ z' 57 ≤ 2000)) → (∀ k, 2 < k → k ≠ 56 → B k = A k) → hb_ok B → Q r z' B) : wp_print z A w Q := by
  intro z1 hz1
  refine wq_has hw hth (fun r hr => ⟨by rcases hr with h | h <;> exact ⟨by omega, by omega⟩, fun c f hf z15 hz15 => ?_, fun c => ?_⟩)
  · have hw2 : 0 ≤ w ∧ w < 4 := by
      rcases hr with h | h
      · omega
      · exact h.2
    have zk : ∀ k, k ≠ 3 → k ≠ 57 → z15 k = z k := fun k k3 k57 => by rw [hz15, lp_U_other k57, hz1, lp_U_other k3]
    have last : ∀ (z0 : Nat → Int) (B0 : Nat → Nat → Int), (∀ k, k ≠ 3 → k ≠ 57 → z0 k = z k) → 0 ≤ z0 57 → z0 57 ≤ 1 → (∀ k, 2 < k → k ≠ 56 → B0 k = A k) → hb_ok B0 → wp_print_49 z0 B0 f Q := by
      intro z0 B0 hz0 p0 p1 hB0 hok0
      refine wq_say (by omega) (by omega) (by omega) hok0 p0 (by omega) (fun n B n0 n1 hXB hokB => ?_)
      refine wq_bigIsOne (by omega) (by omega) (hokB _ (by omega) (by omega)) ⟨by split <;> exact ⟨by decide, by decide⟩, fun d => ?_, fun d => ?_⟩
      · refine hQ _ _ B (fun k k3 k57 => by rw [lp_U_other k57]; exact hz0 k k3 k57) (Or.inr ?_) (fun k a b => by rw [hXB.1 k a b]; exact hB0 k a b) hokB
        rw [lp_U_same]
        omega
      · rw [lp_U_same]
        refine ⟨⟨by omega, by omega⟩, fun B6 hB6 z7 hz7 => ?_⟩
        have hK : lq_K 56 B B6 := by rw [hB6]; exact lq_K_s _ _ _ _
        rw [lp_U_U] at hz7
        have e57 : z7 57 = n + 1 := by rw [hz7, lp_U_same]
        refine wq_say (by omega) (by omega) (by omega) (hb_ok_K (by decide) hK hokB) (by omega) (by omega) (fun n2 B9 m0 m1 hXB9 hokB9 => ?_)
        refine hQ _ _ B9 (fun k k3 k57 => ?_) (Or.inr ?_) (fun k a b => ?_) hokB9
        · rw [lp_U_other k57, hz7, lp_U_other k57]
          exact hz0 k k3 k57
        · rw [lp_U_same]
          omega
        · rw [hXB9.1 k a b, hK k b, hXB.1 k a b]
          exact hB0 k a b
    refine wq_bigSign (by omega) (by omega) (hok _ (by omega) (by omega)) ⟨hb_sgn_r _, fun d => last z15 A zk ?_ ?_ (fun _ _ _ => rfl) hok, fun d A18 hA18 z19 hz19 => ?_⟩
    · rw [hz15, lp_U_same]
      decide
    · rw [hz15, lp_U_same]
      decide
    · have hK : lq_K 56 A A18 := by rw [hA18]; exact lq_K_s _ _ _ _
      refine last z19 A18 (fun k k3 k57 => by rw [hz19, lp_U_other k57]; exact zk k k3 k57) ?_ ?_ (fun k a b => hK k b) (hb_ok_K (by decide) hK hok)
      · rw [hz19, lp_U_same]
        decide
      · rw [hz19, lp_U_same]
        decide
  · exact hQ _ _ A (fun k k3 k57 => by rw [hz1, lp_U_other k3]) (Or.inl (by rw [hz1, lp_U_other (by decide)])) (fun _ _ _ => rfl) hok
theorem wq_compareFractions {z : Nat → Int} {A : Nat → Nat → Int} {x y : Int} {Q : Int → (Nat → Nat → Int) → Prop} (x0 : 0 ≤ x) (x1 : x + 1 < 4243) (y0 : 0 ≤ y) (y1 : y + 1 < 4243) (hok : hb_ok A) (hQ : ∀ r B, hz_rI r → hb_X (fun u => 4243 ≤ u) A B → hb_ok B → Q r B) : wp_compareFractions z A x y Q := by
  have len : ∀ (C : Nat → Nat → Int), hb_ok C → ∀ u : Int, 0 ≤ u → u < 4243 → C 1 u.toNat ≤ 130 := fun C hC u u0 u1 => by
    have h1 := (hC u u0 (by omega)).1
    have h2 : hb_r u = 130 := by unfold hb_r; rw [if_neg (by omega)]
    rw [h2] at h1
    exact h1.2
  have r3 : hb_r 4243 = 270 := by decide
  have r4 : hb_r 4244 = 270 := by decide
  have l1 := len A hok x x0 (by omega)
  have l2 := len A hok (y + 1) (by omega) (by omega)
  refine wq_bigProduct (by decide) (by decide) x0 (by omega) (by omega) (by omega) (by omega) (by omega) (hok _ (by omega) (by omega)) (hok _ (by omega) (by omega)) (by omega) (fun B hXB hWB _ _ => ?_)
  have hokB := hb_ok_one hok hXB hWB
  have l3 := len B hokB y y0 (by omega)
  have l4 := len B hokB (x + 1) (by omega) (by omega)
  refine wq_bigProduct (by decide) (by decide) y0 (by omega) (by omega) (by omega) (by omega) (by omega) (hokB _ (by omega) (by omega)) (hokB _ (by omega) (by omega)) (by omega) (fun C hXC hWC _ _ => ?_)
  have hokC := hb_ok_one hokB hXC hWC
  refine wq_bigCompare (by decide) (by decide) (by decide) (by decide) (hokC _ (by decide) (by decide)) hWC ?_
  exact hQ _ C (hb_c_r _ _) (hb_X_trans (hb_X_mono (fun u e => by omega) hXB) (hb_X_mono (fun u e => by omega) hXC)) hokC

-- 46.expect
/-- a fraction at t: N / D -/
noncomputable def mf_F (A : Nat → Nat → Int) (t N D : Int) : Prop := 0 < D ∧ 0 < hb_v A (t + 1) ∧ hb_v A t * D = N * hb_v A (t + 1)
theorem mf_F_X {ws : Int → Prop} {A B : Nat → Nat → Int} {t N D : Int} (hX : hb_X ws A B) (t0 : 0 ≤ t) (t1 : t + 1 < 4250) (h1 : ¬ ws t) (h2 : ¬ ws (t + 1)) (hok : hb_ok A) (h : mf_F A t N D) : mf_F B t N D := by
  unfold mf_F
  rw [hb_X_v hX t0 (by omega) h1 (hok t t0 (by omega)), hb_X_v hX (by omega) t1 h2 (hok _ (by omega) t1)]
  exact h
theorem mf_red {an bn Dn Nn : Nat} (hb : 0 < bn) (hD : 0 < Dn) (h : an * Dn = Nn * bn) : bn / Nat.gcd an bn ≤ Dn ∧ an / Nat.gcd an bn ≤ Nn := by
  have hg : 0 < Nat.gcd an bn := Nat.gcd_pos_of_pos_right _ hb
  have hco := Nat.coprime_div_gcd_div_gcd hg
  obtain ⟨a', ha⟩ := Nat.gcd_dvd_left an bn
  obtain ⟨b', hb'⟩ := Nat.gcd_dvd_right an bn
  have ea : an / Nat.gcd an bn = a' := Nat.div_eq_of_eq_mul_right hg ha
  have eb : bn / Nat.gcd an bn = b' := Nat.div_eq_of_eq_mul_right hg hb'
  rw [ea, eb] at hco ⊢
  have h2 : a' * Dn = Nn * b' := by
    refine Nat.eq_of_mul_eq_mul_left hg ?_
    have e1 : Nat.gcd an bn * (a' * Dn) = an * Dn := by rw [← Nat.mul_assoc, ← ha]
    have e2 : Nat.gcd an bn * (Nn * b') = Nn * bn := by rw [Nat.mul_left_comm, ← hb']
    rw [e1, e2, h]
  have hd : b' ∣ Dn := Nat.Coprime.dvd_of_dvd_mul_left hco.symm (by rw [h2]; exact Nat.dvd_mul_left _ _)
  have hbp : 0 < b' := by
    apply Nat.pos_of_ne_zero
    intro e
    rw [e, Nat.mul_zero] at hb'
    omega
  refine ⟨Nat.le_of_dvd hD hd, ?_⟩
  obtain ⟨k, hk⟩ := hd
  have hkp : 0 < k := by
    apply Nat.pos_of_ne_zero
    intro e
    rw [e, Nat.mul_zero] at hk
    omega
  have h3 : a' * k = Nn := by
    refine Nat.eq_of_mul_eq_mul_left hbp ?_
    rw [Nat.mul_comm b' Nn, ← h2, hk]
    rw [Nat.mul_left_comm]
  rw [← h3]
  exact Nat.le_mul_of_pos_right _ hkp
theorem wq_settleF {z : Nat → Int} {A : Nat → Nat → Int} {t N D : Int} {Q : (Nat → Nat → Int) → Prop} (t0 : 4227 ≤ t) (t1 : t + 1 < 4243) (hok : hb_ok A) (hb : 0 < hb_v A 4244) (hD : 0 < D) (hD2 : D < 16777216 ^ 130) (hN : (N.natAbs : Int) < 16777216 ^ 130) (he : hb_v A 4243 * D = N * hb_v A 4244)
    (hQ : ∀ B, hb_X (fun x => x = t ∨ x = t + 1 ∨ 4243 ≤ x) A B → hb_ok B → mf_F B t N D → Q B) : wp_settle z A t Q := by
  have W3 := hok 4243 (by decide) (by decide)
  have W4 := hok 4244 (by decide) (by decide)
  have a3 := hb_z_abs W3
  have a4 := hb_z_abs W4
  have n3 : (hb_z A 4243).toNat = (hb_v A 4243).natAbs := by omega
  have n4 : (hb_z A 4244).toNat = (hb_v A 4244).natAbs := by omega
  have hnat : (hb_v A 4243).natAbs * D.natAbs = N.natAbs * (hb_v A 4244).natAbs := by rw [← Int.natAbs_mul, ← Int.natAbs_mul, he]
  obtain ⟨q1, q2⟩ := mf_red (by omega) (by omega) hnat
  obtain ⟨G, hG⟩ : ∃ G : Nat, G = Nat.gcd (hb_z A 4243).toNat (hb_z A 4244).toNat := ⟨_, rfl⟩
  have hG' : Nat.gcd (hb_v A 4243).natAbs (hb_v A 4244).natAbs = G := by rw [hG, n3, n4]
  rw [hG'] at q1 q2
  have Gp : 0 < G := by rw [← hG']; exact Nat.gcd_pos_of_pos_right _ (by omega)
  have e3 : hb_z A 4243 / (G : Int) = (((hb_v A 4243).natAbs / G : Nat) : Int) := by rw [a3, Int.natCast_ediv]
  have e4 : hb_z A 4244 / (G : Int) = (((hb_v A 4244).natAbs / G : Nat) : Int) := by rw [a4, Int.natCast_ediv]
  refine wq_settle t0 t1 hok hb (by rw [← hG, e3]; omega) (by rw [← hG, e4]; omega) (fun B hX hokB h1 h2 => hQ B hX hokB ?_)
  rw [← hG] at h1 h2
  have d3 : (G : Int) ∣ hb_v A 4243 := by
    have := Nat.gcd_dvd_left (hb_v A 4243).natAbs (hb_v A 4244).natAbs
    rw [hG'] at this
    exact Int.ofNat_dvd_left.mpr this
  have d4 : (G : Int) ∣ hb_v A 4244 := by
    have := Nat.gcd_dvd_right (hb_v A 4243).natAbs (hb_v A 4244).natAbs
    rw [hG'] at this
    exact Int.ofNat_dvd_left.mpr this
  obtain ⟨x, hx⟩ := d3
  obtain ⟨y, hy⟩ := d4
  have ex : hb_v B t = x := by rw [h1, hx, Int.mul_ediv_cancel_left _ (by omega)]
  have ey : hb_v B (t + 1) = y := by rw [h2, hy, Int.mul_ediv_cancel_left _ (by omega)]
  have hyp : 0 < y := by
    apply Classical.byContradiction
    intro hc
    have : 0 ≤ (G : Int) * (-y) := Int.mul_nonneg (by omega) (by omega)
    rw [Int.mul_neg] at this
    omega
  refine ⟨hD, by rw [ey]; exact hyp, ?_⟩
  rw [ex, ey]
  rw [hx, hy] at he
  refine Int.eq_of_mul_eq_mul_left (show (G : Int) ≠ 0 by omega) ?_
  grind
theorem hb_len130 {A : Nat → Nat → Int} (hok : hb_ok A) {u : Int} (u0 : 0 ≤ u) (u1 : u < 4243) : A 1 u.toNat ≤ 130 := by
  have h1 := (hok u u0 (by omega)).1
  have h2 : hb_r u = 130 := by unfold hb_r; rw [if_neg (by omega)]
  rw [h2] at h1
  exact h1.2
theorem wq_setFraction {z : Nat → Int} {A : Nat → Nat → Int} {t a b : Int} {Q : (Nat → Nat → Int) → Prop} (t0 : 4227 ≤ t) (t1 : t + 1 < 4243) (hok : hb_ok A) (ha : -1000000000000 ≤ a ∧ a ≤ 1000000000000) (hb : 1 ≤ b ∧ b ≤ 1000000000000)
    (hQ : ∀ B, hb_X (fun x => x = t ∨ x = t + 1 ∨ 4243 ≤ x) A B → hb_ok B → mf_F B t a b → Q B) : wp_setFraction z A t a b Q := by
  have hbig : (1000000000000 : Int) < 16777216 ^ 130 := by decide +kernel
  refine wq_bigSet (by decide) (by decide) (by omega) (fun B hXB hWB hvB _ => ?_)
  have hokB := hb_ok_one hok hXB hWB
  refine wq_bigSet (by decide) (by decide) (by omega) (fun C hXC hWC hvC _ => ?_)
  have hokC := hb_ok_one hokB hXC hWC
  have e3 : hb_v C 4243 = a := by rw [hb_X_v hXC (by decide) (by decide) (by decide) hWB, hvB]
  refine wq_settleF t0 t1 hokC (by rw [hvC]; omega) (show 0 < b by omega) (by omega) (show (a.natAbs : Int) < 16777216 ^ 130 by omega) (by rw [e3, hvC]) (fun D hX hokD hF => hQ D ?_ hokD hF)
  exact hb_X_trans (hb_X_trans (hb_X_mono (fun u e => by omega) hXB) (hb_X_mono (fun u e => by omega) hXC)) hX
theorem wq_times {z : Nat → Int} {A : Nat → Nat → Int} {t a b N D : Int} {Q : (Nat → Nat → Int) → Prop} (t0 : 4227 ≤ t) (t1 : t + 1 < 4243) (hok : hb_ok A) (ha : -1000000000000 ≤ a ∧ a ≤ 1000000000000) (hb : 1 ≤ b ∧ b ≤ 1000000000000) (hF : mf_F A t N D) (hD2 : D * b < 16777216 ^ 130) (hN : ((N * a).natAbs : Int) < 16777216 ^ 130)
    (hQ : ∀ B, hb_X (fun x => x = t ∨ x = t + 1 ∨ 4243 ≤ x) A B → hb_ok B → mf_F B t (N * a) (D * b) → Q B) : wp_times z A t a b Q := by
  have r3 : hb_r 4243 = 270 := by decide
  have r4 : hb_r 4244 = 270 := by decide
  refine wq_bigSet (by decide) (by decide) (by omega) (fun B hXB hWB hvB hlB => ?_)
  have hokB := hb_ok_one hok hXB hWB
  have l1 := hb_len130 hokB (u := t) (by omega) (by omega)
  refine wq_bigProduct (by decide) (by decide) (by omega) (by omega) (by decide) (by decide) (by omega) (by decide) (hokB _ (by omega) (by omega)) hWB (by omega) (fun C hXC hWC hvC _ => ?_)
  have hokC := hb_ok_one hokB hXC hWC
  refine wq_bigSet (by decide) (by decide) (by omega) (fun E hXE hWE hvE hlE => ?_)
  have hokE := hb_ok_one hokC hXE hWE
  have l2 := hb_len130 hokE (u := t + 1) (by omega) (by omega)
  refine wq_bigProduct (by decide) (by decide) (by omega) (by omega) (by decide) (by decide) (by omega) (by decide) (hokE _ (by omega) (by omega)) hWE (by omega) (fun G hXG hWG hvG _ => ?_)
  have hokG := hb_ok_one hokE hXG hWG
  have vt : hb_v B t = hb_v A t := hb_X_v hXB (by omega) (by omega) (by omega) (hok _ (by omega) (by omega))
  have vt1 : hb_v E (t + 1) = hb_v A (t + 1) := by
    rw [hb_X_v hXE (by omega) (by omega) (by omega) (hokC _ (by omega) (by omega)), hb_X_v hXC (by omega) (by omega) (by omega) (hokB _ (by omega) (by omega)), hb_X_v hXB (by omega) (by omega) (by omega) (hok _ (by omega) (by omega))]
  have e3 : hb_v G 4243 = hb_v A t * a := by
    rw [hb_X_v hXG (by decide) (by decide) (by decide) (hokE _ (by decide) (by decide)), hb_X_v hXE (by decide) (by decide) (by decide) hWC, hvC, hvB, vt]
  have e4 : hb_v G 4244 = hb_v A (t + 1) * b := by rw [hvG, hvE, vt1]
  obtain ⟨f1, f2, f3⟩ := hF
  refine wq_settleF t0 t1 hokG (by rw [e4]; exact Int.mul_pos f2 (by omega)) (Int.mul_pos f1 (show 0 < b by omega)) hD2 hN (by rw [e3, e4]; grind) (fun H hX hokH hFH => hQ H ?_ hokH hFH)
  exact hb_X_trans (hb_X_trans (hb_X_trans (hb_X_trans (hb_X_mono (fun u e => by omega) hXB) (hb_X_mono (fun u e => by omega) hXC)) (hb_X_mono (fun u e => by omega) hXE)) (hb_X_mono (fun u e => by omega) hXG)) hX
theorem wq_addFraction {z : Nat → Int} {A : Nat → Nat → Int} {N D N2 D2 U : Int} {Q : (Nat → Nat → Int) → Prop} (hok : hb_ok A) (hF : mf_F A 4239 N D) (hF2 : mf_F A 4241 N2 D2) (hU : D = D2 * U) (hD2 : D < 16777216 ^ 130) (hN : ((N + N2 * U).natAbs : Int) < 16777216 ^ 130)
    (hQ : ∀ B, hb_X (fun x => x = 4239 ∨ x = 4240 ∨ 4243 ≤ x) A B → hb_ok B → mf_F B 4239 (N + N2 * U) D → Q B) : wp_addFraction z A 4239 4241 Q := by
  have r3 : hb_r 4243 = 270 := by decide
  have r4 : hb_r 4244 = 270 := by decide
  have r5 : hb_r 4245 = 270 := by decide
  have plen : ∀ {E F : Nat → Nat → Int} {w a b : Int}, hb_ok E → 0 ≤ a → a < 4243 → 0 ≤ b → b < 4243 → hb_W F w → hb_z F w = hb_z E a * hb_z E b → F 1 w.toNat ≤ 260 := by
    intro E F w a b hE a0 a1 b0 b1 hW hz
    have l1 := hb_len130 hE a0 a1
    have l2 := hb_len130 hE b0 b1
    have h1 := hb_z_lt (hb_W_P (hE a a0 (by omega)))
    have h2 := hb_z_lt (hb_W_P (hE b b0 (by omega)))
    have n1 := hb_z_nonneg (hb_W_P (hE a a0 (by omega)))
    have n2 := hb_z_nonneg (hb_W_P (hE b b0 (by omega)))
    have p1 : (16777216 : Int) ^ (E 1 a.toNat).toNat ≤ 16777216 ^ 130 := hb_pow_le (by omega)
    have p2 : (16777216 : Int) ^ (E 1 b.toNat).toNat ≤ 16777216 ^ 130 := hb_pow_le (by omega)
    have h3 : hb_z E a * hb_z E b < 16777216 ^ 130 * 16777216 ^ 130 := Int.mul_lt_mul' (by omega) (by omega) n2 (hb_pow_pos 130)
    rw [← Int.pow_add, ← hz] at h3
    exact hb_len_le hW h3
  have la := hb_len130 hok (u := 4239) (by decide) (by decide)
  have lb := hb_len130 hok (u := 4241 + 1) (by decide) (by decide)
  refine wq_bigProduct (by decide) (by decide) (by decide) (by decide) (by decide) (by decide) (by decide) (by decide) (hok _ (by decide) (by decide)) (hok _ (by decide) (by decide)) (by omega) (fun B hXB hWB hvB hzB => ?_)
  have hokB := hb_ok_one hok hXB hWB
  have lc := hb_len130 hokB (u := 4241) (by decide) (by decide)
  have ld := hb_len130 hokB (u := 4239 + 1) (by decide) (by decide)
  refine wq_bigProduct (by decide) (by decide) (by decide) (by decide) (by decide) (by decide) (by decide) (by decide) (hokB _ (by decide) (by decide)) (hokB _ (by decide) (by decide)) (by omega) (fun C hXC hWC hvC hzC => ?_)
  have hokC := hb_ok_one hokB hXC hWC
  have len3 : C 1 (4243 : Int).toNat ≤ 260 := by
    rw [(hXC.2 4243 (by decide) (by decide) (by decide)).1]
    exact plen hok (by decide) (by decide) (by decide) (by decide) hWB hzB
  have len5 : C 1 (4245 : Int).toNat ≤ 260 := plen hokB (by decide) (by decide) (by decide) (by decide) hWC hzC
  refine wq_bigAdd (by decide) (by decide) (by decide) (by decide) (by decide) (hokC _ (by decide) (by decide)) hWC (by omega) (by omega) (Or.inl rfl) (fun E hXE hWE hvE => ?_)
  have hokE := hb_ok_one hokC hXE hWE
  rw [if_pos rfl] at hvE
  have le' := hb_len130 hokE (u := 4239 + 1) (by decide) (by decide)
  have lf := hb_len130 hokE (u := 4241 + 1) (by decide) (by decide)
  refine wq_bigProduct (by decide) (by decide) (by decide) (by decide) (by decide) (by decide) (by decide) (by decide) (hokE _ (by decide) (by decide)) (hokE _ (by decide) (by decide)) (by omega) (fun G hXG hWG hvG hzG => ?_)
  have hokG := hb_ok_one hokE hXG hWG
  have sB : ∀ u : Int, 0 ≤ u → u < 4243 → hb_v B u = hb_v A u := fun u u0 u1 => hb_X_v hXB u0 (by omega) (by omega) (hok u u0 (by omega))
  have sE : ∀ u : Int, 0 ≤ u → u < 4243 → hb_v E u = hb_v A u := fun u u0 u1 => by
    rw [hb_X_v hXE u0 (by omega) (by omega) (hokC u u0 (by omega)), hb_X_v hXC u0 (by omega) (by omega) (hokB u u0 (by omega)), sB u u0 u1]
  have e3 : hb_v G 4243 = hb_v A 4239 * hb_v A 4242 + hb_v A 4241 * hb_v A 4240 := by
    rw [hb_X_v hXG (by decide) (by decide) (by decide) hWE, hvE, hb_X_v hXC (by decide) (by decide) (by decide) hWB, hvB, hvC]
    have q1 := sB 4241 (by decide) (by decide)
    have q2 := sB 4240 (by decide) (by decide)
    show hb_v A 4239 * hb_v A 4242 + hb_v B 4241 * hb_v B 4240 = _
    rw [q1, q2]
  have e4 : hb_v G 4244 = hb_v A 4240 * hb_v A 4242 := by
    rw [hvG]
    show hb_v E 4240 * hb_v E 4242 = _
    rw [sE 4240 (by decide) (by decide), sE 4242 (by decide) (by decide)]
  obtain ⟨f1, f2, f3⟩ := hF
  obtain ⟨g1, g2, g3⟩ := hF2
  have f2' : 0 < hb_v A 4240 := f2
  have g2' : 0 < hb_v A 4242 := g2
  have f3' : hb_v A 4239 * D = N * hb_v A 4240 := f3
  have g3' : hb_v A 4241 * D2 = N2 * hb_v A 4242 := g3
  refine wq_settleF (by decide) (by decide) hokG (by rw [e4]; exact Int.mul_pos f2' g2') f1 hD2 hN (by
    rw [e3, e4]
    have h1 : hb_v A 4239 * hb_v A 4242 * D = N * (hb_v A 4240 * hb_v A 4242) := by
      have : hb_v A 4239 * hb_v A 4242 * D = (hb_v A 4239 * D) * hb_v A 4242 := by grind
      rw [this, f3']
      grind
    have h2 : hb_v A 4241 * hb_v A 4240 * D = N2 * U * (hb_v A 4240 * hb_v A 4242) := by
      have : hb_v A 4241 * hb_v A 4240 * D = (hb_v A 4241 * D2) * (hb_v A 4240 * U) := by rw [hU]; grind
      rw [this, g3']
      grind
    rw [Int.add_mul, h1, h2, Int.add_mul]) (fun H hX hokH hFH => hQ H ?_ hokH hFH)
  exact hb_X_trans (hb_X_trans (hb_X_trans (hb_X_trans (hb_X_mono (fun u e => by omega) hXB) (hb_X_mono (fun u e => by omega) hXC)) (hb_X_mono (fun u e => by omega) hXE)) (hb_X_mono (fun u e => by omega) hXG)) (hb_X_mono (fun u e => by omega) hX)

-- 47.judge
/-- the product of what stands below, of moves that aren't used yet -/
noncomputable def mf_P (b : Nat → Int) (u : Nat → Bool) : Nat → Int
  | 0 => 1
  | k + 1 => mf_P b u k * (if u k then 1 else b k)
theorem mf_P_congr (b : Nat → Int) (u v : Nat → Bool) (n : Nat) (h : ∀ i, i < n → v i = u i) : mf_P b v n = mf_P b u n := by
  induction n with
  | zero => rfl
  | succ n ih => simp only [mf_P]; rw [ih (fun i hi => h i (by omega)), h n (by omega)]
theorem mf_P_use (b : Nat → Int) (u : Nat → Bool) (n i : Nat) (hi : i < n) (hu : u i = false) : mf_P b u n = b i * mf_P b (lp_U u i true) n := by
  induction n with
  | zero => omega
  | succ n ih =>
    simp only [mf_P]
    by_cases e : i = n
    · subst e
      rw [mf_P_congr b u (lp_U u i true) i (fun j hj => lp_U_other (by omega)), lp_U_same, hu]
      simp only [if_true]
      grind
    · rw [ih (by omega), lp_U_other (by omega)]
      grind
theorem mf_P_range (b : Nat → Int) (u : Nat → Bool) (n : Nat) (h : ∀ i, i < n → 1 ≤ b i ∧ b i ≤ 9999) : 1 ≤ mf_P b u n ∧ mf_P b u n ≤ 9999 ^ n := by
  induction n with
  | zero => exact ⟨Int.le_refl _, Int.le_refl _⟩
  | succ n ih =>
    obtain ⟨h1, h2⟩ := ih (fun i hi => h i (by omega))
    have h3 := h n (by omega)
    obtain ⟨y, hy⟩ : ∃ y : Int, y = (if u n then 1 else b n) := ⟨_, rfl⟩
    have hyr : 1 ≤ y ∧ y ≤ 9999 := by rw [hy]; split <;> omega
    simp only [mf_P, Int.pow_succ]
    rw [← hy]
    have k1 : mf_P b u n * 1 ≤ mf_P b u n * y := Int.mul_le_mul_of_nonneg_left hyr.1 (by omega)
    have k2 : mf_P b u n * y ≤ mf_P b u n * 9999 := Int.mul_le_mul_of_nonneg_left hyr.2 (by omega)
    omega
/-- a game's ways lie in its own part; no set is met twice on the way to an end -/
noncomputable def mg_D (A : Nat → Nat → Int) (g : Nat) : Prop := (∀ e : Nat, (e : Int) < A 14 g → 8000 * (g : Int) ≤ A 20 (400 * g + e) ∧ A 20 (400 * g + e) + A 21 (400 * g + e) ≤ 8000 * (g : Int) + 8000) ∧ ∀ e : Nat, (e : Int) < A 14 g → ∀ v w : Nat, A 20 (400 * g + e) ≤ v → v < w → (w : Int) < A 20 (400 * g + e) + A 21 (400 * g + e) → A 22 v ≠ A 22 w
/-- the ways -/
noncomputable def mg_W (A : Nat → Nat → Int) : Prop := ∀ i, i < 80 → (0 ≤ A 49 i ∧ A 49 i ≤ A 50 i) ∧ (1 ≤ A 50 i ∧ A 50 i ≤ 9999)
theorem mf_big {x : Int} (h1 : 1 ≤ x) (h2 : x ≤ 9999 ^ 80) : 400 * (1000000000 * (1000000000 * x)) < 16777216 ^ 130 := by
  have : (400 * (1000000000 * (1000000000 * 9999 ^ 80)) : Int) < 16777216 ^ 130 := by decide +kernel
  omega
theorem mf_abs_mul {N a D b c : Int} (hN : (N.natAbs : Int) ≤ c * D) (ha : 0 ≤ a) (hab : a ≤ b) (hD : 0 < D) (hc : 0 ≤ c) : ((N * a).natAbs : Int) ≤ c * (D * b) := by
  rw [Int.natAbs_mul, Int.natCast_mul]
  have e : ((a.natAbs : Nat) : Int) = a := by omega
  rw [e]
  have h1 : (N.natAbs : Int) * a ≤ (c * D) * a := Int.mul_le_mul_of_nonneg_right hN ha
  have h2 : (c * D) * a ≤ (c * D) * b := Int.mul_le_mul_of_nonneg_left hab (Int.mul_nonneg hc (by omega))
  have h3 : c * (D * b) = c * D * b := by grind
  omega
theorem wq_expectAll {z : Nat → Int} {A : Nat → Nat → Int} {pa pb : Int} {g : Nat} {Q : (Nat → Nat → Int) → Prop} (hpa : pa = 0 ∨ pa = 1) (hpb : pb = 0 ∨ pb = 1) (hg : z 32 = (g : Int)) (hg2 : g < 2) (hG : mg_G A g) (hD : mg_D A g) (hWy : mg_W A) (hok : hb_ok A) (hpl : ∀ s, 0 ≤ A 52 s ∧ A 52 s ≤ 100)
    (hQ : ∀ B, hb_X (fun x => 4239 ≤ x) A B → hb_ok B → Q B) : wp_expectAll z A pa pb Q := by
  obtain ⟨hE, -, -, -, -, hcm⟩ := hG
  obtain ⟨⟨n0, n1⟩, hE2⟩ := hE
  have eg : (z 32).toNat = g := by omega
  have hb : ∀ i, i < 80 → 1 ≤ A 50 i ∧ A 50 i ≤ 9999 := fun i hi => (hWy i hi).2
  obtain ⟨PP, hPP⟩ : ∃ x : Int, x = mf_P (A 50) (fun _ => false) 80 := ⟨_, rfl⟩
  have hPr := mf_P_range (A 50) (fun _ => false) 80 hb
  rw [← hPP] at hPr
  obtain ⟨DD, hDD⟩ : ∃ x : Int, x = A 25 g * PP := ⟨_, rfl⟩
  have hDD1 : PP ≤ DD ∧ DD ≤ 1000000000 * PP := by
    rw [hDD]
    have k1 : 1 * PP ≤ A 25 g * PP := Int.mul_le_mul_of_nonneg_right hcm.1 (by omega)
    have k2 : A 25 g * PP ≤ 1000000000 * PP := Int.mul_le_mul_of_nonneg_right (by omega) (by omega)
    omega
  have hbig := mf_big hPr.1 hPr.2
  refine wq_setFraction (by decide) (by decide) hok (by omega) (by omega) (fun A21 hX21 hok21 hF21 x3 hx3 => ?_)
  intro P hP
  have key : ∀ (k e : Nat) (B : Nat → Nat → Int) (N : Int), (A 14 g).toNat - e = k → (e : Int) ≤ A 14 g → hb_X (fun x => 4239 ≤ x) A B → hb_ok B → mf_F B 4239 N DD → (N.natAbs : Int) ≤ (e : Int) * (1000000000 * DD) → P B ((400 * g + e : Nat) : Int) := by
    intro k
    induction k with
    | zero =>
      intro e B N hk he hX hokB hF hN
      have e14 : B 14 = A 14 := hX.1 14 (by decide)
      refine hP B _ ⟨⟨by omega, by omega⟩, ⟨by omega, by omega⟩, by rw [eg, e14]; exact ⟨by omega, by omega⟩, fun _ => hQ B hX hokB, fun c => by rw [eg, e14] at c; omega⟩
    | succ k ih =>
      intro e B N hk he hX hokB hF hN
      have e14 : B 14 = A 14 := hX.1 14 (by decide)
      have e19 : B 19 = A 19 := hX.1 19 (by decide)
      have e25 : B 25 = A 25 := hX.1 25 (by decide)
      obtain ⟨⟨f0, f1, f2⟩, hwt, hw⟩ := hE2 e (by omega)
      obtain ⟨f, hf⟩ : ∃ f : Nat, (A 20 (400 * g + e)).toNat = f := ⟨_, rfl⟩
      obtain ⟨l, hl⟩ : ∃ l : Nat, (A 21 (400 * g + e)).toNat = l := ⟨_, rfl⟩
      have ef : A 20 (400 * g + e) = (f : Int) := by omega
      have el : A 21 (400 * g + e) = (l : Int) := by omega
      have hdis := hD.2 e (by omega)
      rw [ef, el] at hw hdis
      have et : (((400 * g + e : Nat) : Int)).toNat = 400 * g + e := by omega
      refine hP B _ ⟨⟨by omega, by omega⟩, ⟨by omega, by omega⟩, by rw [eg, e14]; exact ⟨by omega, by omega⟩, fun c => by rw [eg, e14] at c; omega, fun c => ⟨⟨by omega, by omega⟩, ⟨by omega, by omega⟩, ?_⟩⟩
      rw [et, eg, e19, e25]
      refine wq_setFraction (by decide) (by decide) hokB (by omega) (by omega) (fun C hXC hokC hFC => ⟨⟨by omega, by omega⟩, fun x4 hx4 => ?_⟩)
      have hXC' : hb_X (fun x => 4239 ≤ x) A C := hb_X_trans hX (hb_X_mono (fun u e => by omega) hXC)
      rw [hXC'.1 20 (by decide), ef] at hx4
      have hF1 : mf_F C 4239 N DD := mf_F_X hXC (by decide) (by decide) (by decide) (by decide) hokB hF
      intro P2 hP2
      have key2 : ∀ (k2 j : Nat) (E : Nat → Nat → Int) (Nt Dt : Int) (u : Nat → Bool), l - j = k2 → j ≤ l → hb_X (fun x => 4239 ≤ x) A E → hb_ok E → mf_F E 4239 N DD → mf_F E 4241 Nt Dt → Dt * mf_P (A 50) u 80 = DD → (Nt.natAbs : Int) ≤ 1000000000 * Dt → (∀ i, u i = true → ∃ q, q < j ∧ (i / 4 : Nat) = (A 22 (f + q)).toNat) → P2 E ((f + j : Nat) : Int) := by
        intro k2
        induction k2 with
        | zero =>
          intro j E Nt Dt u hk2 hj hXE hokE hFs hFt hU hNt hu
          have ej : j = l := by omega
          subst ej
          have e20 : E 20 = A 20 := hXE.1 20 (by decide)
          have e21 : E 21 = A 21 := hXE.1 21 (by decide)
          have hpu := mf_P_range (A 50) u 80 hb
          have hNU : ((N + Nt * mf_P (A 50) u 80).natAbs : Int) ≤ ((e + 1 : Nat) : Int) * (1000000000 * DD) := by
            have k1 : ((Nt * mf_P (A 50) u 80).natAbs : Int) ≤ 1000000000 * DD := by
              rw [← hU]
              exact mf_abs_mul hNt (by omega) (Int.le_refl _) hFt.1 (by decide)
            have k3 : ((e + 1 : Nat) : Int) * (1000000000 * DD) = (e : Int) * (1000000000 * DD) + 1000000000 * DD := by
              rw [show ((e + 1 : Nat) : Int) = (e : Int) + 1 by omega, Int.add_mul]
              omega
            omega
          have h400 : ((e + 1 : Nat) : Int) * (1000000000 * DD) ≤ 400 * (1000000000 * DD) := Int.mul_le_mul_of_nonneg_right (by omega) (by omega)
          refine hP2 E _ ⟨⟨by omega, by omega⟩, ⟨by omega, by omega⟩, ⟨by omega, by omega⟩, by rw [et, e20, e21, ef, el]; exact ⟨by omega, by omega⟩, fun _ => ?_, fun c => by rw [et, e20, e21, ef, el] at c; omega⟩
          refine wq_addFraction hokE hFs hFt hU.symm (by omega) (by omega) (fun F hXF hokF hFF x3' hx3' => ?_)
          have e3 : x3' = ((400 * g + (e + 1) : Nat) : Int) := by omega
          rw [e3]
          exact ih (e + 1) F _ (by omega) (by omega) (hb_X_trans hXE (hb_X_mono (fun u e => by omega) hXF)) hokF hFF hNU
        | succ k2 ih2 =>
          intro j E Nt Dt u hk2 hj hXE hokE hFs hFt hU hNt hu
          have e20 : E 20 = A 20 := hXE.1 20 (by decide)
          have e21 : E 21 = A 21 := hXE.1 21 (by decide)
          have e22 : E 22 = A 22 := hXE.1 22 (by decide)
          have e23 : E 23 = A 23 := hXE.1 23 (by decide)
          have e49 : E 49 = A 49 := hXE.1 49 (by decide)
          have e50 : E 50 = A 50 := hXE.1 50 (by decide)
          have e52 : E 52 = A 52 := hXE.1 52 (by decide)
          obtain ⟨w0, w1, w2, w3⟩ := hw (f + j) (by omega) (by omega)
          have ew : (((f + j : Nat) : Int)).toNat = f + j := by omega
          have hDt := hFt.1
          have hpu := mf_P_range (A 50) u 80 hb
          have hDtD : Dt ≤ DD := by
            rw [← hU]
            have := Int.mul_le_mul_of_nonneg_left hpu.1 (show 0 ≤ Dt by omega)
            omega
          -- one set's factor
          have next : ∀ (F : Nat → Nat → Int) (Nt' Dt' : Int) (u' : Nat → Bool), hb_X (fun x => x = 4241 ∨ x = 4242 ∨ 4243 ≤ x) E F → hb_ok F → mf_F F 4241 Nt' Dt' → Dt' * mf_P (A 50) u' 80 = DD → (Nt'.natAbs : Int) ≤ 1000000000 * Dt' → (∀ i, u' i = true → ∃ q, q < j + 1 ∧ (i / 4 : Nat) = (A 22 (f + q)).toNat) → wp_expectAll_185 z F pa pb ((400 * g + e : Nat) : Int) ((f + j : Nat) : Int) P P2 Q := by
            intro F Nt' Dt' u' hXF hokF hFF hU' hN' hu' x hx
            have ex : x = ((f + (j + 1) : Nat) : Int) := by omega
            rw [ex]
            exact ih2 (j + 1) F Nt' Dt' u' (by omega) (by omega) (hb_X_trans hXE (hb_X_mono (fun u e => by omega) hXF)) hokF (mf_F_X hXF (by decide) (by decide) (by decide) (by decide) hokE hFs) hFF hU' hN' hu'
          have way : wp_expectAll_152 z E pa pb ((400 * g + e : Nat) : Int) ((f + j : Nat) : Int) (A 22 (f + j)) (A 23 (f + j)) P P2 Q := by
            obtain ⟨i0, hi0⟩ : ∃ i : Nat, (4 * A 22 (f + j) + A 23 (f + j)).toNat = i := ⟨_, rfl⟩
            have hi80 : i0 < 80 := by omega
            have hui : u i0 = false := by
              cases hc : u i0 with
              | false => rfl
              | true =>
                obtain ⟨q, hq, hq2⟩ := hu i0 hc
                exfalso
                have h1 := hw (f + q) (by omega) (by omega)
                have h2 := hdis (f + q) (f + j) (by omega) (by omega) (by omega)
                omega
            obtain ⟨wy1, wy2⟩ := hWy i0 hi80
            have huse := mf_P_use (A 50) u 80 i0 hi80 hui
            have hpu' := mf_P_range (A 50) (lp_U u i0 true) 80 hb
            have hU' : Dt * A 50 i0 * mf_P (A 50) (lp_U u i0 true) 80 = DD := by
              rw [← hU, huse]
              grind
            have hDb : Dt * A 50 i0 ≤ DD := by
              rw [← hU']
              have := Int.mul_le_mul_of_nonneg_left hpu'.1 (show 0 ≤ Dt * A 50 i0 from Int.mul_nonneg (by omega) (by omega))
              omega
            have hNa := mf_abs_mul (c := 1000000000) hNt wy1.1 wy1.2 hDt (by decide)
            refine ⟨⟨by omega, by omega⟩, ?_, ⟨by omega, by omega⟩, ?_, ?_⟩
            · rw [hi0, e49]
              exact ⟨by omega, by omega⟩
            · rw [hi0, e50]
              exact ⟨by omega, by omega⟩
            · rw [hi0, e49, e50]
              refine wq_times (by decide) (by decide) hokE (by omega) (by omega) hFt (by omega) (by omega) (fun F hXF hokF hFF => next F _ _ (lp_U u i0 true) hXF hokF hFF hU' hNa (fun i hi => ?_))
              by_cases ei : i = i0
              · exact ⟨j, by omega, by omega⟩
              · rw [lp_U_other ei] at hi
                obtain ⟨q, hq, hq2⟩ := hu i hi
                exact ⟨q, by omega, hq2⟩
          have plan : wp_expectAll_124 z E pa pb ((400 * g + e : Nat) : Int) ((f + j : Nat) : Int) (A 22 (f + j)) (A 23 (f + j)) P P2 Q := by
            have hp := hpl (A 22 (f + j)).toNat
            have fac : ∀ v : Int, (v = 0 ∨ v = 1) → wp_expectAll_145 z E pa pb ((400 * g + e : Nat) : Int) ((f + j : Nat) : Int) v 4241 P P2 Q := by
              intro v hv
              have hNa := mf_abs_mul (a := v) (b := 1) (c := 1000000000) hNt (by omega) (by omega) hDt (by decide)
              have hD1 : Dt * 1 = Dt := Int.mul_one _
              refine wq_times (by decide) (by decide) hokE (by omega) (by omega) hFt (by omega) (by omega) (fun F hXF hokF hFF => next F _ _ u hXF hokF hFF (by rw [hD1]; exact hU) hNa (fun i hi => ?_))
              obtain ⟨q, hq, hq2⟩ := hu i hi
              exact ⟨q, by omega, hq2⟩
            refine ⟨⟨w0, w1⟩, by rw [e52]; exact ⟨by omega, by omega⟩, ⟨by omega, by omega⟩, fun _ => fac 0 (Or.inl rfl), fun _ => fac 1 (Or.inr rfl)⟩
          refine hP2 E _ ⟨⟨by omega, by omega⟩, ⟨by omega, by omega⟩, ⟨by omega, by omega⟩, by rw [et, e20, e21, ef, el]; exact ⟨by omega, by omega⟩, fun c => by rw [et, e20, e21, ef, el] at c; omega, fun c => ⟨⟨by omega, by omega⟩, fun x5 hx5 => ⟨⟨by omega, by omega⟩, fun x6 hx6 => ?_⟩⟩⟩
          rw [ew, e22] at hx5
          rw [ew, e23] at hx6
          rw [hx5, hx6]
          exact ⟨⟨by omega, by omega⟩, fun _ => ⟨⟨by omega, by omega⟩, fun _ => way, fun _ => plan⟩, fun _ => ⟨⟨by omega, by omega⟩, fun _ => way, fun _ => plan⟩⟩
      rw [hx4]
      refine key2 _ 0 C _ _ (fun _ => false) rfl (by omega) hXC' hokC hF1 hFC (by rw [← hPP, hDD]) ?_ (fun i hi => by simp at hi)
      have k1 : 1000000000 * 1 ≤ 1000000000 * A 25 g := by omega
      omega
  have h := key _ 0 A21 0 rfl (by omega) (hb_X_mono (fun u e => by omega) hX21) hok21 (by
    refine ⟨by omega, hF21.2.1, ?_⟩
    have h3 := hF21.2.2
    rw [Int.mul_one, Int.zero_mul] at h3
    rw [h3, Int.zero_mul, Int.zero_mul]) (by simp)
  have e : x3 = ((400 * g + 0 : Nat) : Int) := by omega
  rw [e]
  exact h
theorem wq_keep {z : Nat → Int} {A : Nat → Nat → Int} {w : Int} {Q : (Nat → Nat → Int) → Prop} (w0 : 0 ≤ w) (w1 : w < 4) (hok : hb_ok A) (hth : ∀ s, A 51 s = 0 ∨ A 51 s = 1) (hQ : ∀ B, (∀ k, 2 < k → k ≠ 51 → B k = A k) → hb_ok B → (∀ s, B 51 s = 0 ∨ B 51 s = 1) → Q B) : wp_keep z A w Q := by
  have r1 : ∀ y : Int, y < 4243 → hb_r y = 130 := fun y h => by unfold hb_r; rw [if_neg (by omega)]
  refine wq_bigCopy (by omega) (by omega) (by decide) (by decide) (by omega) (hok _ (by decide) (by decide)) (by rw [r1 _ (by omega)]; exact hb_len130 hok (by decide) (by decide)) (fun B hXB hWB _ _ _ => ?_)
  have hokB := hb_ok_one hok hXB hWB
  refine wq_bigCopy (by omega) (by omega) (by decide) (by decide) (by omega) (hokB _ (by decide) (by decide)) (by rw [r1 _ (by omega)]; exact hb_len130 hokB (by decide) (by decide)) (fun C hXC hWC _ _ _ => ?_)
  have hokC := hb_ok_one hokB hXC hWC
  refine ⟨⟨w0, w1⟩, fun D hD => ?_⟩
  have hK : lq_K 51 C D := by rw [hD]; exact lq_K_s _ _ _ _
  refine hQ D (fun k k2 k51 => by rw [hK k k51, hXC.1 k k2, hXB.1 k k2]) (hb_ok_K (by decide) hK hokC) (fun s => ?_)
  rw [hD, lq_s_fun]
  unfold hz_u
  split
  · exact Or.inr rfl
  · rw [hXC.1 51 (by decide), hXB.1 51 (by decide)]
    exact hth s

-- 48.state
/-- what always holds of the model between calls -/
noncomputable def mi_I (z : Nat → Int) (A : Nat → Nat → Int) : Prop :=
  (0 ≤ z 5 ∧ z 5 ≤ 4000) ∧ (∀ i : Nat, (i : Int) < z 5 → 32 ≤ A 4 i ∧ A 4 i ≤ 126) ∧ (z 34 = 0 ∨ z 34 = 1) ∧ (z 32 = 0 ∨ z 32 = 1) ∧ z 33 = 1 - z 32 ∧
  (z 34 = 1 → mg_G A (z 32).toNat ∧ mg_D A (z 32).toNat ∧ mg_W A) ∧ hb_ok A ∧ (∀ s, 0 ≤ A 52 s ∧ A 52 s ≤ 100) ∧ (∀ s, A 51 s = 0 ∨ A 51 s = 1) ∧ (0 ≤ z 57 ∧ z 57 ≤ 2000)
theorem mg_G_Z {A B : Nat → Nat → Int} {g : Nat} (h : ms_Z A B) (hG : mg_G A g) : mg_G B g := by
  have e : ∀ k, k = 14 ∨ k = 19 ∨ k = 20 ∨ k = 21 ∨ k = 22 ∨ k = 23 ∨ k = 25 ∨ k = 26 ∨ k = 28 → B k = A k := fun k hk => h k (by omega) (by omega) (by omega) (by omega) (by omega) (by omega) (by omega)
  have ep : ∀ p n, lq_pp B g p n = lq_pp A g p n := fun p n => by
    induction n with
    | zero => rfl
    | succ n ih => simp only [lq_pp]; rw [ih, e 28 (by decide)]
  unfold mg_G mg_E mg_S at hG ⊢
  rw [e 14 (by decide), e 19 (by decide), e 20 (by decide), e 21 (by decide), e 22 (by decide), e 23 (by decide), e 25 (by decide), e 26 (by decide), e 28 (by decide), ep, ep]
  exact hG
theorem mg_D_Z {A B : Nat → Nat → Int} {g : Nat} (h : ms_Z A B) (hD : mg_D A g) : mg_D B g := by
  have e : ∀ k, k = 14 ∨ k = 20 ∨ k = 21 ∨ k = 22 → B k = A k := fun k hk => h k (by omega) (by omega) (by omega) (by omega) (by omega) (by omega) (by omega)
  unfold mg_D at hD ⊢
  rw [e 14 (by decide), e 20 (by decide), e 21 (by decide), e 22 (by decide)]
  exact hD
theorem mg_W_Z {A B : Nat → Nat → Int} (h : ms_Z A B) (hW : mg_W A) : mg_W B := by
  unfold mg_W at hW ⊢
  rw [h 49 (by decide) (by decide) (by decide) (by decide) (by decide) (by decide) (by decide), h 50 (by decide) (by decide) (by decide) (by decide) (by decide) (by decide) (by decide)]
  exact hW
theorem mi_keep {z z' : Nat → Int} {A B : Nat → Nat → Int} (hI : mi_I z A) (hz : ∀ k, k ≠ 3 → k ≠ 57 → z' k = z k) (h57 : 0 ≤ z' 57 ∧ z' 57 ≤ 2000) (hZ : ms_Z A B) (hok : hb_ok B) (h52 : ∀ s, 0 ≤ B 52 s ∧ B 52 s ≤ 100) (h51 : ∀ s, B 51 s = 0 ∨ B 51 s = 1) : mi_I z' B := by
  obtain ⟨a1, a2, a3, a4, a5, a6, -, -, -, -⟩ := hI
  unfold mi_I
  rw [hz 5 (by decide) (by decide), hz 34 (by decide) (by decide), hz 32 (by decide) (by decide), hz 33 (by decide) (by decide), hZ 4 (by decide) (by decide) (by decide) (by decide) (by decide) (by decide) (by decide)]
  exact ⟨a1, a2, a3, a4, a5, fun c => ⟨mg_G_Z hZ (a6 c).1, mg_D_Z hZ (a6 c).2.1, mg_W_Z hZ (a6 c).2.2⟩, hok, h52, h51, h57⟩
theorem mi_3 {z : Nat → Int} {A : Nat → Nat → Int} (hI : mi_I z A) (t : Int) : mi_I (lp_U z 3 t) A :=
  mi_keep hI (fun k k3 _ => lp_U_other k3) (by rw [lp_U_other (by decide)]; exact hI.2.2.2.2.2.2.2.2.2) (ms_Z_refl A) hI.2.2.2.2.2.2.1 hI.2.2.2.2.2.2.2.1 hI.2.2.2.2.2.2.2.2.1
theorem mi_g {z : Nat → Int} {A : Nat → Nat → Int} (hI : mi_I z A) : ∃ g : Nat, g < 2 ∧ z 32 = (g : Int) ∧ (z 32).toNat = g := by
  obtain ⟨-, -, -, a4, -⟩ := hI
  exact ⟨(z 32).toNat, by omega, by omega, rfl⟩
theorem mi_k {z : Nat → Int} {A : Nat → Nat → Int} (hI : mi_I z A) : hz_rI (z 34) := by
  rcases hI.2.2.1 with h | h <;> rw [h] <;> exact ⟨by decide, by decide⟩
theorem wq_isPlayer {z : Nat → Int} {A : Nat → Nat → Int} {p : Int} {Q : Int → Prop} (hI : mi_I z A) (hp : hz_rI p) (hQ : ∀ r, (r = 0 ∨ r = 1 ∧ z 34 = 1 ∧ (p = 1 ∨ p = 2)) → Q r) : wp_isPlayer z A p Q := by
  have hk := hI.2.2.1
  refine ⟨mi_k hI, fun c => ⟨Or.inl rfl, hQ 0 (Or.inl rfl)⟩, fun c => ⟨hp, fun d => ⟨Or.inr rfl, hQ 1 (Or.inr ⟨rfl, by omega, Or.inl d⟩)⟩, fun d => ⟨hp, fun e => ⟨Or.inl rfl, hQ 0 (Or.inl rfl)⟩, fun e => ⟨Or.inr rfl, hQ 1 (Or.inr ⟨rfl, by omega, Or.inr e⟩)⟩⟩⟩⟩
/-- the sets of a player of the game -/
theorem mi_S {z : Nat → Int} {A : Nat → Nat → Int} (hI : mi_I z A) (hk : z 34 = 1) {p : Int} (hp : p = 1 ∨ p = 2) {g : Nat} (hg : (z 32).toNat = g) : mg_S A g (p - 1).toNat := by
  have h := (hI.2.2.2.2.2.1 hk).1
  rw [hg] at h
  rcases hp with e | e
  · subst e
    exact h.2.1
  · subst e
    exact h.2.2.1
theorem wq_setsOf {z : Nat → Int} {A : Nat → Nat → Int} {p : Int} {Q : Int → Prop} (hI : mi_I z A) (hp : p = 1 ∨ p = 2) (hQ : Q (A 26 (2 * (z 32).toNat + (p - 1).toNat))) : wp_setsOf z A p Q := by
  obtain ⟨g, hg, hgz, hgt⟩ := mi_g hI
  have e : (2 * z 32 + p - 1).toNat = 2 * (z 32).toNat + (p - 1).toNat := by omega
  refine ⟨⟨by omega, by omega⟩, ?_⟩
  rw [e]
  exact hQ
theorem wq_isSet {z : Nat → Int} {A : Nat → Nat → Int} {p s : Int} {Q : Int → Prop} (hI : mi_I z A) (hp : hz_rI p) (hs : hz_rI s) (hQ : ∀ r, (r = 0 ∨ r = 1 ∧ z 34 = 1 ∧ (p = 1 ∨ p = 2) ∧ 0 ≤ s ∧ s < A 26 (2 * (z 32).toNat + (p - 1).toNat)) → Q r) : wp_isSet z A p s Q := by
  refine wq_isPlayer hI hp (fun r hr => ⟨by rcases hr with h | h <;> exact ⟨by omega, by omega⟩, fun c => ⟨Or.inl rfl, hQ 0 (Or.inl rfl)⟩, fun c => ⟨hs, fun d => ⟨Or.inl rfl, hQ 0 (Or.inl rfl)⟩, fun d => ?_⟩⟩)
  obtain ⟨h1, h2, h3⟩ : r = 1 ∧ z 34 = 1 ∧ (p = 1 ∨ p = 2) := hr.resolve_left c
  have hS := (mi_S hI h2 h3 rfl).1
  refine wq_setsOf hI h3 ⟨hs, ⟨by omega, by omega⟩, fun e => ⟨Or.inl rfl, hQ 0 (Or.inl rfl)⟩, fun e => ⟨Or.inr rfl, hQ 1 (Or.inr ⟨rfl, h2, h3, by omega, by omega⟩)⟩⟩
theorem wq_movesOf {z : Nat → Int} {A : Nat → Nat → Int} {i : Int} {Q : Int → Prop} (hI : mi_I z A) (i0 : 0 ≤ i) (i1 : i < 20) (hQ : Q (A 28 (20 * (z 32).toNat + i.toNat))) : wp_movesOf z A i Q := by
  obtain ⟨g, hg, hgz, hgt⟩ := mi_g hI
  have e : (20 * z 32 + i).toNat = 20 * (z 32).toNat + i.toNat := by omega
  refine ⟨⟨by omega, by omega⟩, ?_⟩
  rw [e]
  exact hQ
theorem mi_pow {x y a b : Int} {k : Nat} (hk : k < 4) (hx0 : 0 ≤ x) (hx : x ≤ k * 9999 ^ k) (hy0 : 0 ≤ y) (hy : y ≤ 9999 ^ k) (ha0 : 0 ≤ a) (ha : a ≤ 9999) (hb0 : 0 ≤ b) (hb : b ≤ 9999) : (0 ≤ x * b + a * y ∧ x * b + a * y ≤ ((k + 1 : Nat) : Int) * 9999 ^ (k + 1)) ∧ (0 ≤ y * b ∧ y * b ≤ 9999 ^ (k + 1)) := by
  have k1 : x * b ≤ x * 9999 := Int.mul_le_mul_of_nonneg_left hb hx0
  have k2 : a * y ≤ 9999 * y := Int.mul_le_mul_of_nonneg_right ha hy0
  have k3 : y * b ≤ y * 9999 := Int.mul_le_mul_of_nonneg_left hb hy0
  have k4 : 0 ≤ x * b := Int.mul_nonneg hx0 hb0
  have k5 : 0 ≤ a * y := Int.mul_nonneg ha0 hy0
  have k6 : 0 ≤ y * b := Int.mul_nonneg hy0 hb0
  rcases (show k = 0 ∨ k = 1 ∨ k = 2 ∨ k = 3 by omega) with e | e | e | e <;> subst e <;> simp only [Int.pow_succ, Int.pow_zero] at hx hy ⊢ <;> omega
theorem wq_isGood {z : Nat → Int} {A : Nat → Nat → Int} {p : Int} {Q : Int → Prop} (hI : mi_I z A) (hk : z 34 = 1) (hp : p = 1 ∨ p = 2) (hQ : ∀ r, (r = 0 ∨ r = 1) → Q r) : wp_isGood z A p Q := by
  obtain ⟨g, hg, hgz, hgt⟩ := mi_g hI
  have hS := mi_S hI hk hp hgt
  have hW := (hI.2.2.2.2.2.1 hk).2.2
  obtain ⟨q, hq⟩ : ∃ q : Nat, (p - 1).toNat = q := ⟨_, rfl⟩
  rw [hq] at hS
  have hq2 : q < 2 := by omega
  have hpq : p = (q : Int) + 1 := by omega
  intro x hx
  intro P hP
  have key : ∀ (k s : Nat) (gd : Int), (A 26 (2 * g + q)).toNat - s = k → (s : Int) ≤ A 26 (2 * g + q) → (gd = 0 ∨ gd = 1) → P gd ((10 * q + s : Nat) : Int) := by
    intro k
    induction k with
    | zero =>
      intro s gd hk' hs hgd
      refine hP gd _ (wq_setsOf hI hp ?_)
      rw [hgt, hq]
      have := hS.1
      exact ⟨⟨by omega, by omega⟩, ⟨by omega, by omega⟩, fun _ => ⟨hgd, hQ gd hgd⟩, fun c => by omega⟩
    | succ k ih =>
      intro s gd hk' hs hgd
      refine hP gd _ (wq_setsOf hI hp ?_)
      rw [hgt, hq]
      have hS1 := hS.1
      have hmv := hS.2 s (by omega)
      refine ⟨⟨by omega, by omega⟩, ⟨by omega, by omega⟩, fun c => by omega, fun c x8 hx8 => ?_⟩
      have next : ∀ v : Int, (v = 0 ∨ v = 1) → wp_isGood_111 z A p ((10 * q + s : Nat) : Int) v P Q := by
        intro v hv x3 hx3
        have e3 : x3 = ((10 * q + (s + 1) : Nat) : Int) := by omega
        rw [e3]
        exact ih (s + 1) v (by omega) (by omega) hv
      intro P2 hP2
      obtain ⟨mv, hmvn⟩ : ∃ m : Nat, (A 28 (20 * g + (10 * q + s))).toNat = m := ⟨_, rfl⟩
      have emv : A 28 (20 * g + (10 * q + s)) = (mv : Int) := by omega
      have et : (((10 * q + s : Nat) : Int)).toNat = 10 * q + s := by omega
      have key2 : ∀ (k2 j : Nat) (a b : Int), mv - j = k2 → j ≤ mv → 0 ≤ a → a ≤ j * 9999 ^ j → 0 ≤ b → b ≤ 9999 ^ j → P2 a b ((4 * (10 * q + s) + j : Nat) : Int) := by
        intro k2
        induction k2 with
        | zero =>
          intro j a b hk2 hj a0 a1 b0 b1
          have ej : j = mv := by omega
          have hr : hz_rL a ∧ hz_rL b := by
            rcases (show j = 1 ∨ j = 2 ∨ j = 3 ∨ j = 4 by omega) with e | e | e | e <;> subst e <;> simp only [Int.pow_succ, Int.pow_zero] at a1 b1 <;> exact ⟨⟨by omega, by omega⟩, ⟨by omega, by omega⟩⟩
          refine hP2 a b _ (wq_movesOf hI (by omega) (by omega) ?_)
          rw [hgt, et, emv]
          refine ⟨⟨by omega, by omega⟩, ⟨by omega, by omega⟩, fun _ => ⟨⟨by omega, by omega⟩, fun _ => next 0 (Or.inl rfl), fun _ => ⟨hr.1, hr.2, fun _ => next 0 (Or.inl rfl), fun _ => next 1 (Or.inr rfl)⟩⟩, fun d => by omega⟩
        | succ k2 ih2 =>
          intro j a b hk2 hj a0 a1 b0 b1
          refine hP2 a b _ (wq_movesOf hI (by omega) (by omega) ?_)
          rw [hgt, et, emv]
          have ei : (((4 * (10 * q + s) + j : Nat) : Int)).toNat = 4 * (10 * q + s) + j := by omega
          obtain ⟨w1, w2⟩ := hW (4 * (10 * q + s) + j) (by omega)
          rw [ei]
          obtain ⟨⟨c1, c2⟩, c3, c4⟩ := mi_pow (k := j) (by omega) a0 a1 b0 b1 w1.1 (by omega) (show 0 ≤ A 50 (4 * (10 * q + s) + j) by omega) w2.2
          refine ⟨⟨by omega, by omega⟩, ⟨by omega, by omega⟩, fun d => by omega, fun d => ⟨⟨by omega, by omega⟩, ⟨by omega, by omega⟩, ⟨by omega, by omega⟩, ⟨by omega, by omega⟩, fun a' ha' => ⟨⟨by omega, by omega⟩, ⟨by omega, by omega⟩, fun b' hb' x8' hx8' => ?_⟩⟩⟩
          have e8 : x8' = ((4 * (10 * q + s) + (j + 1) : Nat) : Int) := by omega
          rw [e8, ha', hb']
          exact ih2 (j + 1) _ _ (by omega) (by omega) c1 c2 c3 c4
      have h2 := key2 _ 0 0 1 rfl (by omega) (by omega) (by omega) (by omega) (by omega)
      have e8 : x8 = ((4 * (10 * q + s) + 0 : Nat) : Int) := by omega
      rw [e8]
      exact h2
  have h := key _ 0 1 rfl (by have := hS.1; omega) (Or.inr rfl)
  have e : x = ((10 * q + 0 : Nat) : Int) := by omega
  rw [e]
  exact h

-- 49.calls
theorem wq_place {z : Nat → Int} {A : Nat → Nat → Int} {Q : Int → (Nat → Int) → Prop} (hI : mi_I z A) (hQ : ∀ r t, mi_I (lp_U z 3 t) A → Q r (lp_U z 3 t)) : wp_place z A Q := by
  intro z1 hz1
  subst hz1
  exact hQ _ 0 (mi_3 hI 0)
theorem wq_count {z : Nat → Int} {A : Nat → Nat → Int} {w : Int} {Q : Int → (Nat → Int) → Prop} (hI : mi_I z A) (hw : hz_rI w) (hQ : ∀ r t, mi_I (lp_U z 3 t) A → Q r (lp_U z 3 t)) : wp_count z A w Q := by
  intro z1 hz1
  subst hz1
  have hI1 := mi_3 hI 0
  obtain ⟨g, hg, hgz, hgt⟩ := mi_g hI1
  have hr : 0 ≤ lp_U z 3 0 32 ∧ lp_U z 3 0 32 < 2 := by omega
  exact ⟨mi_k hI1, fun _ => ⟨hw, fun _ => ⟨hw, fun _ => ⟨hw, fun _ => ⟨hw, fun _ => hQ _ 0 hI1, fun _ => ⟨hr, hQ _ 0 hI1⟩⟩, fun _ => ⟨hr, hQ _ 0 hI1⟩⟩, fun _ => ⟨hr, hQ _ 0 hI1⟩⟩, fun _ => ⟨hr, hQ _ 0 hI1⟩⟩, fun _ => hQ _ 0 hI1⟩
theorem wq_sets {z : Nat → Int} {A : Nat → Nat → Int} {p : Int} {Q : Int → (Nat → Int) → Prop} (hI : mi_I z A) (hp : hz_rI p) (hQ : ∀ r t, mi_I (lp_U z 3 t) A → Q r (lp_U z 3 t)) : wp_sets z A p Q := by
  intro z1 hz1
  subst hz1
  have hI1 := mi_3 hI 0
  refine wq_isPlayer hI1 hp (fun r hr => ⟨by rcases hr with h | h <;> exact ⟨by omega, by omega⟩, fun _ => hQ _ 0 hI1, fun c => ?_⟩)
  obtain ⟨h1, h2, h3⟩ := hr.resolve_left c
  exact wq_setsOf hI1 h3 (hQ _ 0 hI1)
theorem wq_set {z : Nat → Int} {A : Nat → Nat → Int} {p s w : Int} {Q : Int → (Nat → Int) → Prop} (hI : mi_I z A) (hp : hz_rI p) (hs : hz_rI s) (hw : hz_rI w) (hQ : ∀ r t, mi_I (lp_U z 3 t) A → Q r (lp_U z 3 t)) : wp_set z A p s w Q := by
  intro z1 hz1 x hx
  subst hz1
  have hI1 := mi_3 hI 0
  refine wq_isSet hI1 hp hs (fun r hr => ⟨by rcases hr with h | h <;> exact ⟨by omega, by omega⟩, fun c => ?_, fun _ => hQ _ 0 hI1⟩)
  obtain ⟨h1, h2, h3, h4, h5⟩ := hr.resolve_left c
  obtain ⟨g, hg, hgz, hgt⟩ := mi_g hI1
  have hS := (mi_S hI1 h2 h3 rfl).1
  have hr2 : 0 ≤ x ∧ x < 40 := by omega
  exact ⟨hw, fun _ => ⟨hw, fun _ => ⟨hw, fun _ => hQ _ 0 hI1, fun _ => ⟨hr2, hQ _ 0 hI1⟩⟩, fun _ => ⟨hr2, hQ _ 0 hI1⟩⟩, fun _ => ⟨hr2, hQ _ 0 hI1⟩⟩
theorem wq_plans {z : Nat → Int} {A : Nat → Nat → Int} {p : Int} {Q : Int → (Nat → Int) → Prop} (hI : mi_I z A) (hp : hz_rI p) (hQ : ∀ r t, mi_I (lp_U z 3 t) A → Q r (lp_U z 3 t)) : wp_plans z A p Q := by
  intro z1 hz1
  subst hz1
  have hI1 := mi_3 hI 0
  refine wq_isPlayer hI1 hp (fun r hr => ⟨by rcases hr with h | h <;> exact ⟨by omega, by omega⟩, fun _ => hQ _ 0 hI1, fun c => ?_⟩)
  obtain ⟨h1, h2, h3⟩ := hr.resolve_left c
  obtain ⟨g, hg, hgz, hgt⟩ := mi_g hI1
  have hS := mi_S hI1 h2 h3 hgt
  have ep : p - 1 = (((p - 1).toNat : Nat) : Int) := by omega
  rw [hgz, ep]
  exact wq_plansOf hg (by omega) hS.1 (hQ _ 0 hI1)
theorem wq_good {z : Nat → Int} {A : Nat → Nat → Int} {p : Int} {Q : Int → (Nat → Int) → Prop} (hI : mi_I z A) (hp : hz_rI p) (hQ : ∀ r t, mi_I (lp_U z 3 t) A → Q r (lp_U z 3 t)) : wp_good z A p Q := by
  intro z1 hz1
  subst hz1
  have hI1 := mi_3 hI 0
  refine wq_isPlayer hI1 hp (fun r hr => ⟨by rcases hr with h | h <;> exact ⟨by omega, by omega⟩, fun c => ?_, fun _ => hQ _ 0 hI1⟩)
  obtain ⟨h1, h2, h3⟩ := hr.resolve_left c
  exact wq_isGood hI1 h2 h3 (fun r' hr' => ⟨by rcases hr' with h | h <;> rw [h] <;> exact ⟨by decide, by decide⟩, fun _ => hQ _ 0 hI1, fun _ => hQ _ 0 hI1⟩)
theorem wq_reply {z : Nat → Int} {A : Nat → Nat → Int} {p s : Int} {Q : Int → (Nat → Int) → Prop} (hI : mi_I z A) (hp : hz_rI p) (hs : hz_rI s) (hQ : ∀ r t, mi_I (lp_U z 3 t) A → Q r (lp_U z 3 t)) : wp_reply z A p s Q := by
  intro z1 hz1
  subst hz1
  have hI1 := mi_3 hI 0
  refine wq_isPlayer hI1 hp (fun r hr => ⟨by rcases hr with h | h <;> exact ⟨by omega, by omega⟩, fun _ => hQ _ 0 hI1, fun c => ?_⟩)
  obtain ⟨h1, h2, h3⟩ := hr.resolve_left c
  have h51 := hI1.2.2.2.2.2.2.2.2.1 (1 + p).toNat
  refine ⟨⟨by omega, by omega⟩, by rcases h51 with h | h <;> rw [h] <;> exact ⟨by decide, by decide⟩, fun _ => hQ _ 0 hI1, fun _ => wq_isSet hI1 ⟨by omega, by omega⟩ hs (fun r2 hr2 => ⟨by rcases hr2 with h | h <;> exact ⟨by omega, by omega⟩, fun _ => hQ _ 0 hI1, fun c2 => ?_⟩)⟩
  obtain ⟨k1, k2, k3, k4, k5⟩ := hr2.resolve_left c2
  have hS := (mi_S hI1 k2 k3 rfl).1
  exact ⟨⟨by omega, by omega⟩, hQ _ 0 hI1⟩
theorem wq_character {z : Nat → Int} {A : Nat → Nat → Int} {i : Int} {Q : Int → (Nat → Int) → Prop} (hI : mi_I z A) (hi : hz_rI i) (hQ : ∀ r t, mi_I (lp_U z 3 t) A → Q r (lp_U z 3 t)) : wp_character z A i Q := by
  intro z1 hz1
  subst hz1
  have hI1 := mi_3 hI 0
  have h57 := hI1.2.2.2.2.2.2.2.2.2
  exact ⟨hi, fun _ => hQ _ 0 hI1, fun c => ⟨hi, ⟨by omega, by omega⟩, fun _ => hQ _ 0 hI1, fun d => ⟨⟨by omega, by omega⟩, hQ _ 0 hI1⟩⟩⟩
theorem wq_check {z : Nat → Int} {A : Nat → Nat → Int} {Q : Int → (Nat → Int) → Prop} (hI : mi_I z A) (hQ : ∀ r t, mi_I (lp_U z 3 t) A → Q r (lp_U z 3 t)) : wp_check z A Q := by
  intro z1 hz1
  subst hz1
  have hI1 := mi_3 hI 0
  have h51 := hI1.2.2.2.2.2.2.2.2.1 (0 : Int).toNat
  exact ⟨by rcases h51 with h | h <;> rw [h] <;> exact ⟨by decide, by decide⟩, fun _ => hQ _ 0 hI1, fun _ => hQ _ 0 hI1⟩
theorem wq_compare {z : Nat → Int} {A : Nat → Nat → Int} {v w : Int} {Q : Int → (Nat → Int) → (Nat → Nat → Int) → Prop} (hI : mi_I z A) (hv : hz_rI v) (hw : hz_rI w) (hQ : ∀ r t B, mi_I (lp_U z 3 t) B → Q r (lp_U z 3 t) B) : wp_compare z A v w Q := by
  intro z1 hz1
  subst hz1
  have hI1 := mi_3 hI 0
  have h51 := hI1.2.2.2.2.2.2.2.2.1
  refine wq_has hv h51 (fun r hr => ⟨by rcases hr with h | h <;> exact ⟨by omega, by omega⟩, fun _ => hQ _ 0 A hI1, fun c => ?_⟩)
  obtain ⟨h1, h2, h3⟩ := hr.resolve_left c
  refine wq_has hw h51 (fun r2 hr2 => ⟨by rcases hr2 with h | h <;> exact ⟨by omega, by omega⟩, fun _ => hQ _ 0 A hI1, fun c2 => ?_⟩)
  obtain ⟨k1, k2, k3⟩ := hr2.resolve_left c2
  refine wq_compareFractions (by omega) (by omega) (by omega) (by omega) hI1.2.2.2.2.2.2.1 (fun r3 B _ hX hokB => hQ _ 0 B ?_)
  exact mi_keep hI1 (fun _ _ _ => rfl) hI1.2.2.2.2.2.2.2.2.2 (ms_Z_X hX) hokB (by rw [hX.1 52 (by decide)]; exact hI1.2.2.2.2.2.2.2.1) (by rw [hX.1 51 (by decide)]; exact h51)
theorem wq_printC {z : Nat → Int} {A : Nat → Nat → Int} {w : Int} {Q : Int → (Nat → Int) → (Nat → Nat → Int) → Prop} (hI : mi_I z A) (hw : hz_rI w) (hQ : ∀ r z' B, (∀ k, k ≠ 3 → k ≠ 57 → z' k = z k) → mi_I z' B → Q r z' B) : wp_print z A w Q := by
  refine wq_print hw hI.2.2.2.2.2.2.1 hI.2.2.2.2.2.2.2.2.1 (fun r z' B hz h57 hB hokB => hQ r z' B hz ?_)
  refine mi_keep hI hz ?_ (fun k k2 _ _ _ _ _ k56 => hB k k2 k56) hokB (by rw [hB 52 (by decide) (by decide)]; exact hI.2.2.2.2.2.2.2.1) (by rw [hB 51 (by decide) (by decide)]; exact hI.2.2.2.2.2.2.2.2.1)
  rcases h57 with h | h
  · rw [h]
    exact hI.2.2.2.2.2.2.2.2.2
  · exact h
theorem wq_solveC {z : Nat → Int} {A : Nat → Nat → Int} {Q : (Nat → Int) → (Nat → Nat → Int) → Prop} (hI : mi_I z A) (hQ : ∀ t B, mi_I (lp_U z 3 t) B → Q (lp_U z 3 t) B) : wp_solve z A Q := by
  obtain ⟨g, hg, hgz, hgt⟩ := mi_g hI
  refine wq_solve hI.2.2.1 (fun hk => ⟨g, hg, hgz, by have := (hI.2.2.2.2.2.1 hk).1; rw [hgt] at this; exact this⟩) hI.2.2.2.2.2.2.1 hI.2.2.2.2.2.2.2.1 hI.2.2.2.2.2.2.2.2.1 (fun t B _ hZ hokB h52 h51 _ _ => hQ t B ?_)
  exact mi_keep (mi_3 hI t) (fun _ _ _ => rfl) (mi_3 hI t).2.2.2.2.2.2.2.2.2 hZ hokB h52 h51
theorem wq_expect {z : Nat → Int} {A : Nat → Nat → Int} {Q : (Nat → Int) → (Nat → Nat → Int) → Prop} (hI : mi_I z A) (hQ : ∀ t B, mi_I (lp_U z 3 t) B → Q (lp_U z 3 t) B) : wp_expect z A Q := by
  have no : wp_expect_28 z A Q := by
    intro z1 hz1
    subst hz1
    rw [lp_U_same]
    exact ⟨⟨by decide, by decide⟩, fun _ => hQ 1 A (mi_3 hI 1), fun c => by omega⟩
  refine ⟨mi_k hI, fun _ => no, fun c => ?_⟩
  have hk : z 34 = 1 := hI.2.2.1.resolve_left c
  refine wq_isGood hI hk (Or.inl rfl) (fun r hr => ⟨by rcases hr with h | h <;> rw [h] <;> exact ⟨by decide, by decide⟩, fun _ => no, fun _ => wq_isGood hI hk (Or.inr rfl) (fun r2 hr2 => ⟨by rcases hr2 with h | h <;> rw [h] <;> exact ⟨by decide, by decide⟩, fun _ => no, fun _ z1 hz1 => ?_⟩)⟩)
  subst hz1
  have hI1 := mi_3 hI 0
  obtain ⟨g, hg, hgz, hgt⟩ := mi_g hI1
  have hG := hI1.2.2.2.2.2.1 hk
  rw [hgt] at hG
  rw [lp_U_same]
  refine ⟨⟨by decide, by decide⟩, fun d => by omega, fun _ => wq_expectAll (Or.inl rfl) (Or.inl rfl) hgz hg hG.1 hG.2.1 hG.2.2 hI1.2.2.2.2.2.2.1 hI1.2.2.2.2.2.2.2.1 (fun B hX hokB => ?_)⟩
  refine wq_keep (by decide) (by decide) hokB (by rw [hX.1 51 (by decide)]; exact hI1.2.2.2.2.2.2.2.2.1) (fun C hC hokC h51 => hQ 0 C ?_)
  exact mi_keep hI1 (fun _ _ _ => rfl) hI1.2.2.2.2.2.2.2.2.2 (ms_Z_trans (ms_Z_X hX) (fun k k2 k51 _ _ _ _ _ => hC k k2 k51)) hokC (by rw [hC 52 (by decide) (by decide), hX.1 52 (by decide)]; exact hI1.2.2.2.2.2.2.2.1) h51
theorem wq_judge {z : Nat → Int} {A : Nat → Nat → Int} {p : Int} {Q : (Nat → Int) → (Nat → Nat → Int) → Prop} (hI : mi_I z A) (hp : hz_rI p) (hQ : ∀ t B, mi_I (lp_U z 3 t) B → Q (lp_U z 3 t) B) : wp_judge z A p Q := by
  have no : ∀ t : Int, 1 ≤ t → t ≤ 2 → wp_judge_35 z A p t Q := by
    intro t t1 t2 z1 hz1
    subst hz1
    rw [lp_U_same]
    exact ⟨⟨by omega, by omega⟩, fun c => by omega, fun _ => hQ t A (mi_3 hI t)⟩
  have yes : (p = 1 ∨ p = 2) → wp_judge_15 z A p Q := by
    intro hp2
    refine ⟨mi_k hI, fun _ => no 2 (by decide) (by decide), fun c => ?_⟩
    have hk : z 34 = 1 := hI.2.2.1.resolve_left c
    refine wq_isGood hI hk hp2 (fun r hr => ⟨by rcases hr with h | h <;> rw [h] <;> exact ⟨by decide, by decide⟩, fun _ z1 hz1 => ?_, fun _ => no 2 (by decide) (by decide)⟩)
    subst hz1
    have hI1 := mi_3 hI 0
    obtain ⟨g, hg, hgz, hgt⟩ := mi_g hI1
    have hG := hI1.2.2.2.2.2.1 hk
    rw [hgt] at hG
    rw [lp_U_same]
    refine ⟨⟨by decide, by decide⟩, fun _ x2 hx2 => ⟨⟨by omega, by omega⟩, fun A24 hA24 => ?_⟩, fun d => by omega⟩
    obtain ⟨q, hq⟩ : ∃ q : Nat, x2 = (q : Int) := ⟨x2.toNat, by omega⟩
    have hq2 : q < 2 := by omega
    subst hq
    have hS : mg_S A g q := by
      rcases (show q = 0 ∨ q = 1 by omega) with e | e <;> subst e
      · exact hG.1.2.1
      · exact hG.1.2.2.1
    obtain ⟨n, hn⟩ : ∃ n : Nat, (A 26 (2 * g + q)).toNat = n := ⟨_, rfl⟩
    have en : A 26 (2 * g + q) = (n : Int) := by have := hS.1; omega
    have hn10 : n ≤ 10 := by have := hS.1; omega
    have hK24 : lq_K 51 A A24 := by rw [hA24]; exact lq_K_s _ _ _ _
    have h5124 : ∀ s, A24 51 s = 0 ∨ A24 51 s = 1 := fun s => by
      rw [hA24, lq_s_fun]
      unfold hz_u
      split
      · exact Or.inl rfl
      · exact hI1.2.2.2.2.2.2.2.2.1 s
    refine wq_firstPlan hq2 (fun A26 hK26 h26 => ?_)
    have hZ26 : ms_Z A A26 := ms_Z_trans (ms_Z_K (Or.inl rfl) hK24) (ms_Z_K (Or.inr (Or.inl rfl)) hK26)
    have hok26 : hb_ok A26 := hb_ok_K (by decide) hK26 (hb_ok_K (by decide) hK24 hI1.2.2.2.2.2.2.1)
    intro P hP
    -- a plan that is one
    have key : ∀ (k : Nat) (B : Nat → Nat → Int) (mo : Int), (if mo = 0 then 0 else (lq_m (fun s => A 28 (20 * g + s)) (10 * q) n (B 52)).toNat + 1) = k → (mo = 0 ∨ mo = 1) → ms_Z A B → hb_ok B → (∀ s, 0 ≤ B 52 s ∧ B 52 s ≤ 100) → (∀ s, B 51 s = 0 ∨ B 51 s = 1) → (∀ s, 10 * q ≤ s → s < 10 * q + n → 0 ≤ B 52 s ∧ B 52 s < A 28 (20 * g + s)) → P B mo := by
      intro k
      induction k using Nat.strongRecOn with
      | ind k ih =>
        intro B mo hk' hmo hZ hokB h52 h51 hpl
        have e26 : B 26 = A 26 := hZ 26 (by decide) (by decide) (by decide) (by decide) (by decide) (by decide) (by decide)
        have e28 : B 28 = A 28 := hZ 28 (by decide) (by decide) (by decide) (by decide) (by decide) (by decide) (by decide)
        refine hP B mo ⟨by rcases hmo with h | h <;> rw [h] <;> exact ⟨by decide, by decide⟩, fun c0 => hQ 0 B ?_, fun c1 => ?_⟩
        · exact mi_keep hI1 (fun _ _ _ => rfl) hI1.2.2.2.2.2.2.2.2.2 hZ hokB h52 h51
        · have hm1 : mo = 1 := hmo.resolve_left c1
          -- the next plan
          have next : ∀ C, ms_Z A C → hb_ok C → C 52 = B 52 → (∀ s, C 51 s = 0 ∨ C 51 s = 1) → wp_judge_201 (lp_U z 3 0) C p (q : Int) P Q := by
            intro C hZC hokC h52C h51C
            have f26 : C 26 = A 26 := hZC 26 (by decide) (by decide) (by decide) (by decide) (by decide) (by decide) (by decide)
            have f28 : C 28 = A 28 := hZC 28 (by decide) (by decide) (by decide) (by decide) (by decide) (by decide) (by decide)
            refine wq_nextPlan hq2 hgz hg (by rw [f26]; exact en) hn10 (fun s hs => by rw [f28]; have := hS.2 s (by omega); omega) (by rw [h52C]; exact h52) (fun E hKE hE => ?_)
            rw [f28, h52C] at hE ⊢
            have r01 := lq_r_01 (fun s => A 28 (20 * g + s)) (10 * q) n (B 52)
            have hnn := lq_n_ok (fun s => A 28 (20 * g + s)) (10 * q) n (B 52) hpl
            have hm0 := lq_m_nonneg (fun s => A 28 (20 * g + s)) (10 * q) n (lq_n (fun s => A 28 (20 * g + s)) (10 * q) n (B 52)) hnn
            have hm0' := lq_m_nonneg (fun s => A 28 (20 * g + s)) (10 * q) n (B 52) hpl
            have hZE : ms_Z A E := ms_Z_trans hZC (ms_Z_K (Or.inr (Or.inl rfl)) hKE)
            have h52E : ∀ s, 0 ≤ E 52 s ∧ E 52 s ≤ 100 := fun s => by
              rw [hE]
              refine lq_n_range _ _ n _ 100 (by decide) (fun t t1 t2 => ?_) h52 s
              have := hS.2 (t - 10 * q) (by omega)
              have e : 10 * q + (t - 10 * q) = t := by omega
              rw [e] at this
              omega
            rcases r01 with r0 | r1
            · refine ih 0 ?_ E _ (by rw [r0, if_pos rfl]) (Or.inl r0) hZE (hb_ok_K (by decide) hKE hokC) h52E (by rw [hKE 51 (by decide)]; exact h51C) (by rw [hE]; exact hnn)
              rw [hm1, if_neg (by decide)] at hk'
              omega
            · have hst := lq_m_step (fun s => A 28 (20 * g + s)) (10 * q) n (B 52) hpl r1
              refine ih ((lq_m (fun s => A 28 (20 * g + s)) (10 * q) n (E 52)).toNat + 1) ?_ E _ (by rw [r1, if_neg (by decide)]) (Or.inr r1) hZE (hb_ok_K (by decide) hKE hokC) h52E (by rw [hKE 51 (by decide)]; exact h51C) (by rw [hE]; exact hnn)
              rw [hE]
              rw [hm1, if_neg (by decide)] at hk'
              omega
          have keep : ∀ C, ms_Z A C → hb_ok C → C 52 = B 52 → (∀ s, C 51 s = 0 ∨ C 51 s = 1) → wp_judge_156 (lp_U z 3 0) C p (q : Int) P Q := by
            intro C hZC hokC h52C h51C
            refine wq_keep (by omega) (by omega) hokC h51C (fun D hD hokD h51D x5 hx5 => ?_)
            have hZD : ms_Z A D := ms_Z_trans hZC (fun k k2 k51 _ _ _ _ _ => hD k k2 k51)
            have h52D : D 52 = B 52 := by rw [hD 52 (by decide) (by decide)]; exact h52C
            intro P2 hP2
            have key2 : ∀ (k2 j : Nat) (E : Nat → Nat → Int), 10 - j = k2 → j ≤ 10 → ms_Z A E → hb_ok E → E 52 = B 52 → (∀ s, E 51 s = 0 ∨ E 51 s = 1) → P2 E ((10 * q + j : Nat) : Int) := by
              intro k2
              induction k2 with
              | zero =>
                intro j E hk2 hj hZE hokE h52E h51E
                exact hP2 E _ ⟨⟨by omega, by omega⟩, ⟨by omega, by omega⟩, fun _ => next E hZE hokE h52E h51E, fun d => by omega⟩
              | succ k2 ih2 =>
                intro j E hk2 hj hZE hokE h52E h51E
                refine hP2 E _ ⟨⟨by omega, by omega⟩, ⟨by omega, by omega⟩, fun d => by omega, fun d => ⟨⟨by omega, by omega⟩, ⟨by omega, by omega⟩, fun F hF x6 hx6 => ?_⟩⟩
                have hKF : lq_K 53 E F := by rw [hF]; exact lq_K_s _ _ _ _
                have e6 : x6 = ((10 * q + (j + 1) : Nat) : Int) := by omega
                rw [e6]
                exact ih2 (j + 1) F (by omega) (by omega) (ms_Z_trans hZE (ms_Z_K (Or.inr (Or.inr (Or.inl rfl))) hKF)) (hb_ok_K (by decide) hKF hokE) (by rw [hKF 52 (by decide)]; exact h52E) (by rw [hKF 51 (by decide)]; exact h51E)
            have h2 := key2 _ 0 D rfl (by omega) hZD hokD h52D h51D
            have e5 : x5 = ((10 * q + 0 : Nat) : Int) := by omega
            rw [e5]
            exact h2
          have dec : ∀ C t0, ms_Z A C → hb_ok C → C 52 = B 52 → (∀ s, C 51 s = 0 ∨ C 51 s = 1) → hz_rI t0 → wp_judge_125 (lp_U z 3 0) C p (q : Int) t0 P Q := by
            intro C t0 hZC hokC h52C h51C ht0
            refine ⟨⟨by omega, by omega⟩, by rcases h51C (1 + p).toNat with h | h <;> rw [h] <;> exact ⟨by decide, by decide⟩, fun _ => keep C hZC hokC h52C h51C, fun _ => ⟨hp, fun _ => ⟨ht0, fun _ => next C hZC hokC h52C h51C, fun _ => keep C hZC hokC h52C h51C⟩, fun _ => ⟨ht0, fun _ => next C hZC hokC h52C h51C, fun _ => keep C hZC hokC h52C h51C⟩⟩⟩
          have ex : ∀ ta tb : Int, (ta = 0 ∨ ta = 1) → (tb = 0 ∨ tb = 1) → wp_judge_91 (lp_U z 3 0) B p (q : Int) ta tb P Q := by
            intro ta tb hta htb
            refine wq_expectAll htb hta hgz hg (mg_G_Z hZ hG.1) (mg_D_Z hZ hG.2.1) (mg_W_Z hZ hG.2.2) hokB h52 (fun C hX hokC => ?_)
            have hZC : ms_Z A C := ms_Z_trans hZ (ms_Z_X hX)
            have h52C : C 52 = B 52 := hX.1 52 (by decide)
            have h51C : ∀ s, C 51 s = 0 ∨ C 51 s = 1 := by rw [hX.1 51 (by decide)]; exact h51
            refine ⟨⟨by omega, by omega⟩, by rcases h51C (1 + p).toNat with h | h <;> rw [h] <;> exact ⟨by decide, by decide⟩, fun _ => dec C 0 hZC hokC h52C h51C ⟨by decide, by decide⟩, fun _ => ?_⟩
            refine wq_compareFractions (by omega) (by omega) (by omega) (by omega) hokC (fun r D hr hXD hokD => dec D r (ms_Z_trans hZC (ms_Z_X hXD)) hokD (by rw [hXD.1 52 (by decide)]; exact h52C) (by rw [hXD.1 51 (by decide)]; exact h51C) hr)
          exact ⟨hp, fun _ => ⟨hp, fun _ => ex 0 0 (Or.inl rfl) (Or.inl rfl), fun _ => ex 1 0 (Or.inr rfl) (Or.inl rfl)⟩, fun _ => ⟨hp, fun _ => ex 0 1 (Or.inl rfl) (Or.inr rfl), fun _ => ex 1 1 (Or.inr rfl) (Or.inr rfl)⟩⟩
    refine key _ A26 1 rfl (Or.inr rfl) hZ26 hok26 (fun s => ?_) (by rw [hK26 51 (by decide)]; exact h5124) (fun s s1 s2 => ?_)
    · rw [h26 s, hK24 52 (by decide)]
      split
      · omega
      · exact hI1.2.2.2.2.2.2.2.1 s
    · rw [h26 s, if_pos (by omega)]
      have := hS.2 (s - 10 * q) (by omega)
      have e : 10 * q + (s - 10 * q) = s := by omega
      rw [e] at this
      omega
  refine ⟨hp, fun c => yes (Or.inl c), fun c => ⟨hp, fun d => yes (Or.inr d), fun d => no 1 (by decide) (by decide)⟩⟩

-- 50.type
theorem mi_text {z z' : Nat → Int} {A B : Nat → Nat → Int} (hI : mi_I z A) (hz : ∀ k, k ≠ 3 → k ≠ 5 → z' k = z k) (h5 : 0 ≤ z' 5 ∧ z' 5 ≤ 4000) (hB : lq_K 4 A B) (ht : ∀ i : Nat, (i : Int) < z' 5 → 32 ≤ B 4 i ∧ B 4 i ≤ 126) : mi_I z' B := by
  obtain ⟨-, -, a3, a4, a5, a6, a7, a8, a9, a10⟩ := hI
  unfold mi_I
  rw [hz 34 (by decide) (by decide), hz 32 (by decide) (by decide), hz 33 (by decide) (by decide), hz 57 (by decide) (by decide), hB 52 (by decide), hB 51 (by decide)]
  refine ⟨h5, ht, a3, a4, a5, fun c => ?_, hb_ok_K (by decide) hB a7, a8, a9, a10⟩
  obtain ⟨b1, b2, b3⟩ := a6 c
  have ep : ∀ g p n, lq_pp B g p n = lq_pp A g p n := fun g p n => by
    induction n with
    | zero => rfl
    | succ n ih => simp only [lq_pp]; rw [ih, hB 28 (by decide)]
  unfold mg_G mg_E mg_S mg_D mg_W at *
  rw [hB 14 (by decide), hB 19 (by decide), hB 20 (by decide), hB 21 (by decide), hB 22 (by decide), hB 23 (by decide), hB 25 (by decide), hB 26 (by decide), hB 28 (by decide), hB 49 (by decide), hB 50 (by decide), ep, ep]
  exact ⟨b1, b2, b3⟩
theorem wq_tell {z : Nat → Int} {A : Nat → Nat → Int} {p s mv a b : Int} {Q : (Nat → Int) → (Nat → Nat → Int) → Prop} (hI : mi_I z A) (hp : hz_rI p) (hs : hz_rI s) (hm : hz_rI mv) (ha : hz_rI a) (hb : hz_rI b) (hQ : ∀ t B, mi_I (lp_U z 3 t) B → Q (lp_U z 3 t) B) : wp_tell z A p s mv a b Q := by
  have no : ∀ t : Int, 1 ≤ t → t ≤ 2 → wp_tell_77 z A p s mv a b t Q := by
    intro t t1 t2 z1 hz1
    subst hz1
    rw [lp_U_same]
    exact ⟨⟨by omega, by omega⟩, fun _ => hQ t A (mi_3 hI t), fun c => by omega⟩
  have no1 : wp_tell_33 z A p s mv a b Q := ⟨⟨by decide, by decide⟩, fun c => absurd rfl c, fun _ => no 1 (by decide) (by decide)⟩
  refine wq_isSet hI hp hs (fun r hr => ⟨by rcases hr with h | h <;> exact ⟨by omega, by omega⟩, fun _ => no1, fun c => ⟨hm, fun _ => no1, fun d => ?_⟩⟩)
  obtain ⟨h1, h2, h3, h4, h5⟩ := hr.resolve_left c
  obtain ⟨g, hg, hgz, hgt⟩ := mi_g hI
  have hS := mi_S hI h2 h3 hgt
  rw [hgt] at h5
  have hS1 := hS.1
  have hS2 := hS.2 s.toNat (by omega)
  refine wq_movesOf hI (by omega) (by omega) ?_
  have ei : 20 * (z 32).toNat + (10 * (p - 1) + s).toNat = 20 * g + (10 * (p - 1).toNat + s.toNat) := by omega
  rw [ei]
  refine ⟨hm, ⟨by omega, by omega⟩, fun _ => no1, fun e => ⟨⟨by decide, by decide⟩, fun _ => ⟨hb, fun _ => no 2 (by decide) (by decide), fun b1 => ⟨hb, fun _ => no 2 (by decide) (by decide), fun b2 => ⟨ha, fun _ => no 2 (by decide) (by decide), fun a1 => ⟨ha, hb, fun ab z1 hz1 => ?_, fun _ => no 2 (by decide) (by decide)⟩⟩⟩⟩, fun c0 => by omega⟩⟩
  subst hz1
  rw [lp_U_same]
  refine ⟨⟨by decide, by decide⟩, fun c0 => by omega, fun _ x hx => ⟨⟨by omega, by omega⟩, fun A4 hA4 => ⟨⟨by omega, by omega⟩, fun A5 hA5 => hQ 0 A5 ?_⟩⟩⟩
  have hI1 := mi_3 hI 0
  obtain ⟨a1', a2, a3, a4, a5, a6, a7, a8, a9, a10⟩ := hI1
  have e : ∀ k, k ≠ 49 → k ≠ 50 → A5 k = A k := fun k k1 k2 => by rw [hA5, hb_s_other k2, hA4, hb_s_other k1]
  have ep : ∀ g p n, lq_pp A5 g p n = lq_pp A g p n := fun g p n => by
    induction n with
    | zero => rfl
    | succ n ih => simp only [lq_pp]; rw [ih, e 28 (by decide) (by decide)]
  unfold mi_I
  rw [e 4 (by decide) (by decide), e 52 (by decide) (by decide), e 51 (by decide) (by decide)]
  refine ⟨a1', a2, a3, a4, a5, fun ck => ?_, (hb_arr (e 0 (by decide) (by decide)) (e 1 (by decide) (by decide)) (e 2 (by decide) (by decide))).1 a7, a8, a9, a10⟩
  obtain ⟨b1', b2', b3'⟩ := a6 ck
  have hW : mg_W A5 := by
    intro i hi
    have h49 : A5 49 i = if i = x.toNat then a else A 49 i := by
      rw [hA5, hb_s_other (by decide), hA4, lq_s_fun]
      rfl
    have h50 : A5 50 i = if i = x.toNat then b else A 50 i := by
      rw [hA5, lq_s_fun, hA4, hb_s_other (by decide)]
      rfl
    rw [h49, h50]
    split
    · exact ⟨⟨by omega, by omega⟩, by omega, by omega⟩
    · exact b3' i hi
  refine ⟨?_, ?_, hW⟩
  · unfold mg_G mg_E mg_S at *
    rw [e 14 (by decide) (by decide), e 19 (by decide) (by decide), e 20 (by decide) (by decide), e 21 (by decide) (by decide), e 22 (by decide) (by decide), e 23 (by decide) (by decide), e 25 (by decide) (by decide), e 26 (by decide) (by decide), e 28 (by decide) (by decide), ep, ep]
    exact b1'
  · unfold mg_D at *
    rw [e 14 (by decide) (by decide), e 20 (by decide) (by decide), e 21 (by decide) (by decide), e 22 (by decide) (by decide)]
    exact b2'
/-- the character k of what is typed, the lowest being 0; when typing is done -/
noncomputable def mt_c (y : Int) (k : Nat) : Int := (y / 2 ^ (8 * k)) % 256
noncomputable def mt_ok (y n l : Int) : Prop := 1 ≤ n ∧ n ≤ 8 ∧ l + n ≤ 4000 ∧ ∀ k : Nat, (k : Int) < n → 32 ≤ mt_c y k ∧ mt_c y k ≤ 126
theorem mt_div {a : Int} (h : hz_rL a) (d : Nat) : hz_rL (a / 2 ^ d) := by
  have hp : (0 : Int) < 2 ^ d := Int.pow_pos (by decide)
  obtain ⟨h1, h2⟩ := h
  by_cases c : 0 ≤ a
  · have k1 := Int.ediv_le_self (2 ^ d) c
    have k2 := Int.ediv_nonneg c (Int.le_of_lt hp)
    exact ⟨by omega, by omega⟩
  · have k1 : a / 2 ^ d < 0 := Int.ediv_neg_of_neg_of_pos (by omega) hp
    have k2 : a ≤ a / 2 ^ d := by
      refine (Int.le_ediv_iff_mul_le hp).mpr ?_
      have h3 : a * 2 ^ d ≤ a * 1 := Int.mul_le_mul_of_nonpos_left (by omega) (by omega)
      omega
    exact ⟨by omega, by omega⟩
theorem wq_type {z : Nat → Int} {A : Nat → Nat → Int} {y n : Int} {Q : Int → (Nat → Int) → (Nat → Nat → Int) → Prop} (hI : mi_I z A) (hy : hz_rL y) (hn : hz_rI n) (hQ1 : mt_ok y n (z 5) → ∀ z' B, mi_I z' B → z' 5 = z 5 + n → Q (z 5 + n) z' B) (hQ0 : ¬ mt_ok y n (z 5) → ∀ z', mi_I z' A → z' 5 = z 5 → Q (-1) z' A) : wp_type z A y n Q := by
  intro z1 hz1
  have hI1 : mi_I z1 A := by rw [hz1]; exact mi_3 hI 0
  have e5 : z1 5 = z 5 := by rw [hz1]; exact lp_U_other (by decide)
  have h5 := hI1.1
  have hm : ∀ k : Nat, hz_rL (y / 2 ^ (8 * k)) := fun k => mt_div hy _
  have hc : ∀ k : Nat, 0 ≤ mt_c y k ∧ mt_c y k < 256 := fun k => ⟨Int.emod_nonneg _ (by decide), Int.emod_lt_of_pos _ (by decide)⟩
  have e8 : ∀ k : Nat, (8 * (k : Int)).toNat = 8 * k := fun k => by omega
  have bad : ¬ mt_ok y n (z 5) → wp_type_93 z1 A y n 0 Q := fun h => ⟨⟨by decide, by decide⟩, fun c => absurd rfl c, fun _ => hQ0 h z1 hI1 e5⟩
  have put : mt_ok y n (z 5) → wp_type_93 z1 A y n 1 Q := by
    intro h
    obtain ⟨g1, g2, g3, g4⟩ := h
    refine ⟨⟨by decide, by decide⟩, fun _ x hx => ?_, fun c => by omega⟩
    intro P hP
    have key : ∀ (k : Nat) (z' : Nat → Int) (B : Nat → Nat → Int), (k : Int) ≤ n → (∀ q, q ≠ 3 → q ≠ 5 → z' q = z q) → z' 5 = z 5 + (n - k) → lq_K 4 A B → (∀ i : Nat, (i : Int) < z' 5 → 32 ≤ B 4 i ∧ B 4 i ≤ 126) → P z' B ((k : Int) - 1) := by
      intro k
      induction k with
      | zero =>
        intro z' B hk hz' h5' hB ht
        refine hP z' B _ ⟨⟨by omega, by omega⟩, fun _ => ?_, fun c => by omega⟩
        have e : z' 5 = z 5 + n := by omega
        rw [e]
        exact hQ1 ⟨g1, g2, g3, g4⟩ z' B (mi_text hI hz' (by omega) hB ht) e
      | succ k ih =>
        intro z' B hk hz' h5' hB ht
        have ek : ((k + 1 : Nat) : Int) - 1 = (k : Int) := by omega
        rw [ek]
        have hck := g4 k (by omega)
        refine hP z' B _ ⟨⟨by omega, by omega⟩, fun c => by omega, fun c => ⟨hy, ⟨by omega, by omega⟩, ?_⟩⟩
        rw [e8]
        have hck2 : 32 ≤ (y / 2 ^ (8 * k)) % 256 ∧ (y / 2 ^ (8 * k)) % 256 ≤ 126 := hck
        refine ⟨hm k, ⟨by omega, by omega⟩, ⟨by omega, by omega⟩, ⟨by omega, by omega⟩, fun B2 hB2 z3 hz3 x4 hx4 => ?_⟩
        have ex : x4 = (k : Int) - 1 := by omega
        have e35 : z3 5 = z' 5 + 1 := by rw [hz3, lp_U_same]
        rw [ex]
        refine ih z3 B2 (by omega) (fun q q3 q5 => by rw [hz3, lp_U_other q5]; exact hz' q q3 q5) (by omega) (lq_K_trans hB (by rw [hB2]; exact lq_K_s _ _ _ _)) (fun i hi => ?_)
        rw [hB2, lq_s_fun]
        unfold hz_u
        split
        · exact hck2
        · exact ht i (by omega)
    obtain ⟨m, hm'⟩ : ∃ m : Nat, n = (m : Int) := ⟨n.toNat, by omega⟩
    have h2 := key m z1 A (by omega) (fun q q3 q5 => by rw [hz1, lp_U_other q3]) (by omega) (lq_K_refl _ A) hI1.2.1
    have ex : x = (m : Int) - 1 := by omega
    rw [ex]
    exact h2
  have loop : ∀ f : Int, (f = 0 ∧ ¬ mt_ok y n (z 5)) ∨ (f = 1 ∧ 1 ≤ n ∧ n ≤ 8 ∧ z 5 + n ≤ 4000) → wp_type_38 z1 A y n f 0 Q := by
    intro f hf
    intro P hP
    have key : ∀ (k j : Nat) (f : Int), 9 - j = k → j ≤ 8 → ((f = 0 ∧ ¬ mt_ok y n (z 5)) ∨ (f = 1 ∧ 1 ≤ n ∧ n ≤ 8 ∧ z 5 + n ≤ 4000 ∧ (j : Int) ≤ n ∧ ∀ i : Nat, i < j → 32 ≤ mt_c y i ∧ mt_c y i ≤ 126)) → P f (j : Int) := by
      intro k
      induction k with
      | zero => intro j f hk hj hf; omega
      | succ k ih =>
        intro j f hk hj hf
        rcases hf with ⟨f0, hno⟩ | ⟨f1, g1, g2, g3, g4, g5⟩
        · subst f0
          exact hP 0 _ ⟨⟨by decide, by decide⟩, fun _ => bad hno, fun c => absurd rfl c⟩
        · subst f1
          refine hP 1 _ ⟨⟨by decide, by decide⟩, fun c => by omega, fun _ => ⟨⟨by omega, by omega⟩, hn, fun c => put ⟨g1, g2, g3, fun i hi => g5 i (by omega)⟩, fun c => ⟨hy, ⟨by omega, by omega⟩, ?_⟩⟩⟩
          rw [e8]
          refine ⟨hm j, fun x hx => ?_⟩
          have hxc : x = mt_c y j := hx
          have hcj := hc j
          have no : (mt_c y j < 32 ∨ 126 < mt_c y j) → wp_type_84 z1 A y n (j : Int) P Q := by
            intro hb x5 hx5
            have e : x5 = ((j + 1 : Nat) : Int) := by omega
            by_cases c8 : j + 1 ≤ 8
            · rw [e]
              refine ih (j + 1) 0 (by omega) c8 (Or.inl ⟨rfl, fun h => ?_⟩)
              have := h.2.2.2 j (by omega)
              omega
            · exact hP 0 _ ⟨⟨by decide, by decide⟩, fun _ => bad (fun h => by have := h.2.2.2 j (by omega); omega), fun c => absurd rfl c⟩
          refine ⟨⟨by omega, by omega⟩, fun d => no (by omega), fun d => ⟨⟨by omega, by omega⟩, fun d2 => no (by omega), fun d2 x5 hx5 => ?_⟩⟩
          have e : x5 = ((j + 1 : Nat) : Int) := by omega
          have hall : ∀ i : Nat, i < j + 1 → 32 ≤ mt_c y i ∧ mt_c y i ≤ 126 := fun i hi => by
            by_cases ei : i = j
            · subst ei
              omega
            · exact g5 i (by omega)
          by_cases c8 : j + 1 ≤ 8
          · rw [e]
            exact ih (j + 1) 1 (by omega) c8 (Or.inr ⟨rfl, g1, g2, g3, by omega, hall⟩)
          · exact hP 1 _ ⟨⟨by decide, by decide⟩, fun c => by omega, fun _ => ⟨⟨by omega, by omega⟩, hn, fun c => put ⟨g1, g2, g3, fun i hi => hall i (by omega)⟩, fun c => by omega⟩⟩
    rcases hf with h | h
    · exact key _ 0 f rfl (by omega) (Or.inl h)
    · exact key _ 0 f rfl (by omega) (Or.inr ⟨h.1, h.2.1, h.2.2.1, h.2.2.2, by omega, fun i hi => by omega⟩)
  refine ⟨hn, fun c => loop 0 (Or.inl ⟨rfl, fun h => by have := h.1; omega⟩), fun c => ⟨hn, fun d => loop 0 (Or.inl ⟨rfl, fun h => by have := h.2.1; omega⟩), fun d => ⟨⟨by omega, by omega⟩, fun e => loop 0 (Or.inl ⟨rfl, fun h => by have := h.2.2.1; omega⟩), fun e => loop 1 (Or.inr ⟨rfl, by omega, by omega, by omega⟩)⟩⟩⟩

-- 51.cut
theorem wq_isDigit {z : Nat → Int} {A : Nat → Nat → Int} {c : Int} {Q : Int → Prop} (hc : hz_rI c) (h1 : 48 ≤ c → c ≤ 57 → Q 1) (h0 : ¬ (48 ≤ c ∧ c ≤ 57) → Q 0) : wp_isDigit z A c Q :=
  ⟨hc, fun d => ⟨Or.inl rfl, h0 (by omega)⟩, fun d => ⟨hc, fun e => ⟨Or.inl rfl, h0 (by omega)⟩, fun e => ⟨Or.inr rfl, h1 (by omega) (by omega)⟩⟩⟩
theorem wq_isSign {z : Nat → Int} {A : Nat → Nat → Int} {c : Int} {Q : Int → Prop} (hc : hz_rI c) (h1 : 40 ≤ c → c ≤ 93 → Q 1) (h0 : Q 0) : wp_isSign z A c Q :=
  ⟨hc, fun d => ⟨Or.inr rfl, h1 (by omega) (by omega)⟩, fun _ => ⟨hc, fun d => ⟨Or.inr rfl, h1 (by omega) (by omega)⟩, fun _ => ⟨hc, fun d => ⟨Or.inr rfl, h1 (by omega) (by omega)⟩, fun _ => ⟨hc, fun d => ⟨Or.inr rfl, h1 (by omega) (by omega)⟩, fun _ => ⟨hc, fun d => ⟨Or.inr rfl, h1 (by omega) (by omega)⟩, fun _ => ⟨hc, fun d => ⟨Or.inr rfl, h1 (by omega) (by omega)⟩, fun _ => ⟨hc, fun d => ⟨Or.inr rfl, h1 (by omega) (by omega)⟩, fun _ => ⟨hc, fun d => ⟨Or.inr rfl, h1 (by omega) (by omega)⟩, fun _ => ⟨hc, fun d => ⟨Or.inr rfl, h1 (by omega) (by omega)⟩, fun _ => ⟨hc, fun d => ⟨Or.inr rfl, h1 (by omega) (by omega)⟩, fun _ => ⟨hc, fun _ => ⟨Or.inl rfl, h0⟩, fun d => ⟨Or.inr rfl, h1 (by omega) (by omega)⟩⟩⟩⟩⟩⟩⟩⟩⟩⟩⟩⟩
/-- the words that were cut -/
noncomputable def mc_K (A : Nat → Nat → Int) (w : Nat) : Prop := ∀ j, j < w → (0 ≤ A 7 j ∧ A 7 j ≤ 126) ∧ (0 ≤ A 9 j ∧ A 9 j ≤ 9999) ∧ (0 ≤ A 8 j ∧ A 8 j ≤ 4000)
noncomputable def mc_T (A : Nat → Nat → Int) (n : Nat) : Prop := 1 ≤ n ∧ n ≤ 4001 ∧ mc_K A n ∧ (∀ j, j + 1 < n → A 7 j ≠ 0 ∧ A 7 j ≠ 2) ∧ (A 7 (n - 1) = 0 ∨ A 7 (n - 1) = 2)
noncomputable def mc_Z (A B : Nat → Nat → Int) : Prop := ∀ k, k ≠ 7 → k ≠ 8 → k ≠ 9 → B k = A k
theorem mc_Z_trans {A B C : Nat → Nat → Int} (h1 : mc_Z A B) (h2 : mc_Z B C) : mc_Z A C := fun k a b c => (h2 k a b c).trans (h1 k a b c)
theorem mc_Z_s {A : Nat → Nat → Int} {q : Nat} {i v : Int} (hq : q = 7 ∨ q = 8 ∨ q = 9) : mc_Z A (hz_s A q i v) := fun k a b c => hb_s_other (by omega)
theorem wq_cut {z : Nat → Int} {A : Nat → Nat → Int} {Q : (Nat → Int) → (Nat → Nat → Int) → Prop} (hL : 0 ≤ z 5 ∧ z 5 ≤ 4000) (ht : ∀ i : Nat, (i : Int) < z 5 → 32 ≤ A 4 i ∧ A 4 i ≤ 126) (hQ : ∀ n B, mc_Z A B → mc_T B n → Q (lp_U z 10 (n : Int)) B) : wp_cut z A Q := by
  intro z0 hz0
  have e5 : ∀ w : Int, lp_U z 10 w 5 = z 5 := fun w => lp_U_other (by decide)
  have e10 : ∀ w : Int, lp_U z 10 w 10 = w := fun w => lp_U_same _ _ _
  rw [hz0]
  intro P hP
  have key : ∀ (k i w : Nat) (B : Nat → Nat → Int) (gd : Int), (z 5).toNat + 1 - i = k → (i : Int) ≤ z 5 + 1 → w ≤ i → mc_Z A B → mc_K B w →
      ((gd = 1 ∧ (i : Int) ≤ z 5 ∧ ∀ j, j < w → B 7 j ≠ 0 ∧ B 7 j ≠ 2) ∨ ((gd = 0 ∨ gd = 1 ∧ (i : Int) = z 5 + 1) ∧ 1 ≤ w ∧ (∀ j, j + 1 < w → B 7 j ≠ 0 ∧ B 7 j ≠ 2) ∧ (B 7 (w - 1) = 0 ∨ B 7 (w - 1) = 2))) → P (lp_U z 10 (w : Int)) B gd (i : Int) := by
    intro k
    induction k using Nat.strongRecOn with
    | ind k ih =>
      intro i w B gd hk hi hwi hZ hK hph
      rcases hph with ⟨g1, hi2, hall⟩ | ⟨hg, hw1, hall, hlast⟩
      · subst g1
        have e4 : B 4 = A 4 := hZ 4 (by decide) (by decide) (by decide)
        have ei : ((i : Int)).toNat = i := by omega
        have ew : ((w : Int)).toNat = w := by omega
        -- a word ends here
        have word : ∀ (C : Nat → Nat → Int) (i2 : Nat), i < i2 → (i2 : Int) ≤ z 5 + 1 → mc_Z A C → mc_K C (w + 1) → (∀ j, j < w → C 7 j ≠ 0 ∧ C 7 j ≠ 2) → (C 7 w = 2 ∨ (C 7 w = 0 ∧ (i2 : Int) = z 5 + 1) ∨ (C 7 w ≠ 0 ∧ C 7 w ≠ 2 ∧ (i2 : Int) ≤ z 5)) → wp_cut_208 (lp_U z 10 (w : Int)) C (i2 : Int) P Q := by
          intro C i2 hi2' hi3 hZC hKC hallC hlastC
          have hr := (hKC w (by omega)).1
          have fin : ∀ gd : Int, (gd = 0 ∧ C 7 w = 2) ∨ (gd = 1 ∧ C 7 w ≠ 2) → wp_cut_226 (lp_U z 10 (w : Int)) C (i2 : Int) gd P Q := by
            intro gd hgd z1 hz1
            rw [e10, lp_U_U] at hz1
            rw [hz1]
            have e : (w : Int) + 1 = ((w + 1 : Nat) : Int) := by omega
            rw [e]
            refine ih ((z 5).toNat + 1 - i2) (by omega) i2 (w + 1) C gd rfl hi3 (by omega) hZC hKC ?_
            rcases hgd with ⟨a, b⟩ | ⟨a, b⟩
            · exact Or.inr ⟨Or.inl a, by omega, fun j hj => hallC j (by omega), Or.inr b⟩
            · rcases hlastC with c | ⟨c, d⟩ | ⟨c, d, f⟩
              · exact absurd c b
              · exact Or.inr ⟨Or.inr ⟨a, d⟩, by omega, fun j hj => hallC j (by omega), Or.inl c⟩
              · refine Or.inl ⟨a, f, fun j hj => ?_⟩
                by_cases ej : j = w
                · subst ej
                  exact ⟨c, d⟩
                · exact hallC j (by omega)
          rw [wp_cut_208, e10, ew]
          exact ⟨⟨by omega, by omega⟩, ⟨by omega, by omega⟩, fun c => fin 0 (Or.inl ⟨rfl, c⟩), fun c => fin 1 (Or.inr ⟨rfl, c⟩)⟩
        have main : ∀ c : Int, (((i : Int) = z 5 ∧ c = 0) ∨ ((i : Int) < z 5 ∧ c = A 4 i)) → wp_cut_39 (lp_U z 10 (w : Int)) B 1 (i : Int) c P Q := by
          intro c hc x4 hx4
          have hcr : 0 ≤ c ∧ c ≤ 126 := by
            rcases hc with h | h
            · omega
            · have := ht i h.1
              omega
          have ex4 : x4 = ((i + 1 : Nat) : Int) := by omega
          rw [ex4]
          refine ⟨⟨by omega, by omega⟩, fun bl => ?_, fun nb => ?_⟩
          · have hlt : (i : Int) < z 5 := by rcases hc with h | h <;> omega
            exact ih ((z 5).toNat + 1 - (i + 1)) (by omega) (i + 1) w B 1 rfl (by omega) (by omega) hZ hK (Or.inl ⟨rfl, by omega, hall⟩)
          · -- the word's kind, place and number
            have put : ∀ kd : Int, (kd = 0 ∧ (i : Int) = z 5 ∧ c = 0) ∨ (kd = 2 ∧ (i : Int) < z 5 ∧ c = A 4 i) ∨ (kd = c ∧ 40 ≤ c ∧ c ≤ 93 ∧ (i : Int) < z 5 ∧ c = A 4 i) → wp_cut_83 (lp_U z 10 (w : Int)) B (i : Int) c ((i + 1 : Nat) : Int) kd (w : Int) P Q := by
              intro kd hkd
              rw [wp_cut_83, e10]
              refine ⟨⟨by omega, by omega⟩, fun C1 hC1 => ⟨⟨by omega, by omega⟩, fun C2 hC2 => ⟨⟨by omega, by omega⟩, fun C3 hC3 => ?_⟩⟩⟩
              have hZ3 : mc_Z A C3 := mc_Z_trans hZ (mc_Z_trans (B := C1) (by rw [hC1]; exact mc_Z_s (Or.inl rfl)) (mc_Z_trans (B := C2) (by rw [hC2]; exact mc_Z_s (Or.inr (Or.inl rfl))) (by rw [hC3]; exact mc_Z_s (Or.inr (Or.inr rfl)))))
              have h7 : ∀ j, C3 7 j = if j = w then kd else B 7 j := fun j => by
                rw [hC3, hb_s_other (by decide), hC2, hb_s_other (by decide), hC1, lq_s_fun]
                unfold hz_u
                rw [ew]
              have h8 : ∀ j, C3 8 j = if j = w then (i : Int) else B 8 j := fun j => by
                rw [hC3, hb_s_other (by decide), hC2, lq_s_fun]
                unfold hz_u
                rw [ew, hC1, hb_s_other (by decide)]
              have h9 : ∀ j, C3 9 j = if j = w then 0 else B 9 j := fun j => by
                rw [hC3, lq_s_fun]
                unfold hz_u
                rw [ew, hC2, hb_s_other (by decide), hC1, hb_s_other (by decide)]
              have hK3 : mc_K C3 (w + 1) := fun j hj => by
                rw [h7, h8, h9]
                by_cases ej : j = w
                · rw [if_pos ej, if_pos ej, if_pos ej]
                  refine ⟨by rcases hkd with h | h | h <;> omega, by omega, by omega⟩
                · rw [if_neg ej, if_neg ej, if_neg ej]
                  exact hK j (by omega)
              have hall3 : ∀ j, j < w → C3 7 j ≠ 0 ∧ C3 7 j ≠ 2 := fun j hj => by
                rw [h7, if_neg (by omega)]
                exact hall j hj
              have h7w : C3 7 w = kd := by rw [h7, if_pos rfl]
              refine wq_isDigit ⟨by omega, by omega⟩ (fun d1 d2 => ⟨⟨by decide, by decide⟩, fun f => by omega, fun _ => ?_⟩) (fun nd => ⟨⟨by decide, by decide⟩, fun _ => ?_, fun f => absurd rfl f⟩)
              · -- a number
                have hlt : (i : Int) < z 5 := by rcases hkd with h | h | h <;> omega
                have hcA : c = A 4 i := by rcases hkd with h | h | h <;> omega
                intro P2 hP2
                have key2 : ∀ (k2 l : Nat) (D : Nat → Nat → Int), (z 5).toNat - (i + l) = k2 → ((i + l : Nat) : Int) ≤ z 5 → mc_Z A D → D 7 = C3 7 → D 8 = C3 8 → (∀ j, j ≠ w → D 9 j = C3 9 j) → 0 ≤ D 9 w → D 9 w ≤ (if l = 0 then 0 else if l = 1 then 9 else if l = 2 then 99 else if l = 3 then 999 else 9999) → P2 D ((i + l : Nat) : Int) := by
                  intro k2
                  induction k2 with
                  | zero =>
                    intro l D hk2 hl hZD h7D h8D h9D n0 n1
                    refine hP2 D _ ?_
                    rw [e5]
                    refine ⟨⟨by omega, by omega⟩, ⟨by omega, by omega⟩, fun _ => ?_, fun f => by omega⟩
                    have fin : ∀ kd : Int, (kd = 1 ∨ kd = 2) → wp_cut_207 (lp_U z 10 (w : Int)) D ((i + l : Nat) : Int) kd (w : Int) P Q := by
                      intro kd hkd'
                      refine ⟨⟨by omega, by omega⟩, fun E hE => word E (i + l) (by omega) (by omega) (mc_Z_trans hZD (by rw [hE]; exact mc_Z_s (Or.inl rfl))) (fun j hj => ?_) (fun j hj => ?_) ?_⟩
                      · have x7 : E 7 j = if j = w then kd else C3 7 j := by
                          rw [hE, lq_s_fun, h7D]
                          unfold hz_u
                          rw [ew]
                        have x8 : E 8 j = C3 8 j := by rw [hE, hb_s_other (by decide), h8D]
                        have x9 : E 9 = D 9 := by rw [hE, hb_s_other (by decide)]
                        rw [x7, x8, x9]
                        by_cases ej : j = w
                        · subst ej
                          rw [if_pos rfl]
                          refine ⟨by omega, ⟨n0, ?_⟩, (hK3 j (by omega)).2.2⟩
                          split at n1
                          · omega
                          · split at n1
                            · omega
                            · split at n1
                              · omega
                              · split at n1 <;> omega
                        · rw [if_neg ej, h9D j ej]
                          exact hK3 j hj
                      · rw [hE, lq_s_fun, h7D]
                        unfold hz_u
                        rw [if_neg (by omega)]
                        exact hall3 j hj
                      · have x7 : E 7 w = kd := by
                          rw [hE, lq_s_fun]
                          unfold hz_u
                          rw [if_pos ew.symm]
                        rw [x7]
                        rcases hkd' with h | h
                        · exact Or.inr (Or.inr ⟨by omega, by omega, by omega⟩)
                        · exact Or.inl h
                    rw [wp_cut_186, e10]
                    exact ⟨⟨by omega, by omega⟩, fun _ => fin 1 (Or.inl rfl), fun _ => fin 2 (Or.inr rfl)⟩
                  | succ k2 ih2 =>
                    intro l D hk2 hl hZD h7D h8D h9D n0 n1
                    have n9 : D 9 w ≤ 9999 := by
                      split at n1
                      · omega
                      · split at n1
                        · omega
                        · split at n1
                          · omega
                          · split at n1 <;> omega
                    have hch := ht (i + l) (by omega)
                    have el : (((i + l : Nat) : Int)).toNat = i + l := by omega
                    have e4D : D 4 = A 4 := hZD 4 (by decide) (by decide) (by decide)
                    have fin : ∀ kd : Int, 0 < l → (kd = 1 ∨ kd = 2) → wp_cut_207 (lp_U z 10 (w : Int)) D ((i + l : Nat) : Int) kd (w : Int) P Q := by
                      intro kd hl0 hkd'
                      refine ⟨⟨by omega, by omega⟩, fun E hE => word E (i + l) (by omega) (by omega) (mc_Z_trans hZD (by rw [hE]; exact mc_Z_s (Or.inl rfl))) (fun j hj => ?_) (fun j hj => ?_) ?_⟩
                      · have x7 : E 7 j = if j = w then kd else C3 7 j := by
                          rw [hE, lq_s_fun, h7D]
                          unfold hz_u
                          rw [ew]
                        have x8 : E 8 j = C3 8 j := by rw [hE, hb_s_other (by decide), h8D]
                        have x9 : E 9 = D 9 := by rw [hE, hb_s_other (by decide)]
                        rw [x7, x8, x9]
                        by_cases ej : j = w
                        · subst ej
                          rw [if_pos rfl]
                          exact ⟨by omega, ⟨n0, n9⟩, (hK3 j (by omega)).2.2⟩
                        · rw [if_neg ej, h9D j ej]
                          exact hK3 j hj
                      · rw [hE, lq_s_fun, h7D]
                        unfold hz_u
                        rw [if_neg (by omega)]
                        exact hall3 j hj
                      · have x7 : E 7 w = kd := by
                          rw [hE, lq_s_fun]
                          unfold hz_u
                          rw [if_pos ew.symm]
                        rw [x7]
                        rcases hkd' with h | h
                        · exact Or.inr (Or.inr ⟨by omega, by omega, by omega⟩)
                        · exact Or.inl h
                    refine hP2 D _ ?_
                    rw [e5]
                    refine ⟨⟨by omega, by omega⟩, ⟨by omega, by omega⟩, fun f => by omega, fun _ => ⟨⟨by omega, by omega⟩, ?_⟩⟩
                    rw [el, e4D]
                    refine wq_isDigit ⟨by omega, by omega⟩ (fun q1 q2 => ⟨⟨by decide, by decide⟩, fun f => by omega, fun _ => ⟨⟨by omega, by omega⟩, fun f4 => ?_, fun f4 => ?_⟩⟩) (fun nd => ⟨⟨by decide, by decide⟩, fun _ => ?_, fun f => absurd rfl f⟩)
                    · rw [e10]
                      refine ⟨⟨by omega, by omega⟩, fun E hE x5 hx5 => ?_⟩
                      have e : x5 = ((i + (l + 1) : Nat) : Int) := by omega
                      have e9 : ∀ j, E 9 j = if j = w then 0 else D 9 j := fun j => by
                        rw [hE, lq_s_fun]
                        unfold hz_u
                        rw [ew]
                      rw [e]
                      refine ih2 (l + 1) E (by omega) (by omega) (mc_Z_trans hZD (by rw [hE]; exact mc_Z_s (Or.inr (Or.inr rfl)))) (by rw [hE, hb_s_other (by decide)]; exact h7D) (by rw [hE, hb_s_other (by decide)]; exact h8D) (fun j hj => by rw [e9, if_neg hj]; exact h9D j hj) (by rw [e9, if_pos rfl]; exact Int.le_refl _) ?_
                      rw [e9, if_pos rfl, if_neg (by omega), if_neg (by omega), if_neg (by omega), if_neg (by omega)]
                      omega
                    · rw [e10, ew]
                      refine ⟨⟨by omega, by omega⟩, ⟨by omega, by omega⟩, ⟨by omega, by omega⟩, fun E hE x5 hx5 => ?_⟩
                      have e : x5 = ((i + (l + 1) : Nat) : Int) := by omega
                      have e9 : ∀ j, E 9 j = if j = w then 10 * D 9 w + A 4 (i + l) - 48 else D 9 j := fun j => by
                        rw [hE, lq_s_fun]
                        unfold hz_u
                        rw [ew]
                      rw [e]
                      refine ih2 (l + 1) E (by omega) (by omega) (mc_Z_trans hZD (by rw [hE]; exact mc_Z_s (Or.inr (Or.inr rfl)))) (by rw [hE, hb_s_other (by decide)]; exact h7D) (by rw [hE, hb_s_other (by decide)]; exact h8D) (fun j hj => by rw [e9, if_neg hj]; exact h9D j hj) (by rw [e9, if_pos rfl]; omega) ?_
                      rw [e9, if_pos rfl]
                      rcases (show l = 0 ∨ l = 1 ∨ l = 2 ∨ l = 3 by omega) with q | q | q | q <;> subst q <;> simp at n1 ⊢ <;> omega
                    · have hl0 : 0 < l := by
                        apply Nat.pos_of_ne_zero
                        intro e0
                        subst e0
                        rw [Nat.add_zero] at nd
                        rw [hcA] at d1 d2
                        exact nd ⟨d1, d2⟩
                      rw [wp_cut_186, e10]
                      exact ⟨⟨by omega, by omega⟩, fun _ => fin 1 hl0 (Or.inl rfl), fun _ => fin 2 hl0 (Or.inr rfl)⟩
                have h := key2 _ 0 C3 rfl (by omega) hZ3 rfl rfl (fun _ _ => rfl) (by rw [h9, if_pos rfl]; exact Int.le_refl _) (by rw [h9, if_pos rfl]; simp)
                exact h
              · refine word C3 (i + 1) (by omega) (by omega) hZ3 hK3 hall3 ?_
                rw [h7w]
                rcases hkd with h | h | h
                · exact Or.inr (Or.inl ⟨h.1, by omega⟩)
                · exact Or.inl h.1
                · exact Or.inr (Or.inr ⟨by omega, by omega, by omega⟩)
            rw [e10, e5]
            refine ⟨⟨by omega, by omega⟩, ⟨by omega, by omega⟩, fun ne => ?_, fun e => put 0 ?_⟩
            · have hlt : (i : Int) < z 5 := by rcases hc with h | h <;> omega
              have hcA : c = A 4 i := by rcases hc with h | h <;> omega
              exact wq_isSign ⟨by omega, by omega⟩ (fun s1 s2 => ⟨⟨by decide, by decide⟩, fun f => by omega, fun _ => put c (Or.inr (Or.inr ⟨rfl, s1, s2, hlt, hcA⟩))⟩) ⟨⟨by decide, by decide⟩, fun _ => put 2 (Or.inr (Or.inl ⟨rfl, hlt, hcA⟩)), fun f => absurd rfl f⟩
            · rcases hc with h | h
              · exact Or.inl ⟨rfl, h.1, h.2⟩
              · omega
        refine hP _ B 1 _ ?_
        rw [e5]
        refine ⟨⟨by decide, by decide⟩, fun c => by omega, fun _ => ⟨⟨by omega, by omega⟩, ⟨by omega, by omega⟩, fun c => by omega, fun _ => ⟨⟨by omega, by omega⟩, ⟨by omega, by omega⟩, fun c => main 0 (Or.inl ⟨by omega, rfl⟩), fun c => ⟨⟨by omega, by omega⟩, ?_⟩⟩⟩⟩
        rw [ei, e4]
        exact main _ (Or.inr ⟨by omega, rfl⟩)
      · have hq : Q (lp_U z 10 (w : Int)) B := hQ w B hZ ⟨hw1, by omega, hK, hall, hlast⟩
        refine hP _ B gd _ ?_
        rw [e5]
        refine ⟨by rcases hg with h | h <;> exact ⟨by omega, by omega⟩, fun _ => hq, fun c => ⟨⟨by omega, by omega⟩, ⟨by omega, by omega⟩, fun _ => hq, fun d => ?_⟩⟩
        rcases hg with h | h <;> omega
  have h := key _ 0 0 A 1 rfl (by omega) (by omega) (fun k _ _ _ => rfl) (fun j hj => by omega) (Or.inl ⟨rfl, by omega, fun j hj => by omega⟩)
  exact h
