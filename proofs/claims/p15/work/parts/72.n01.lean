/-- the kinds, as the model has them -/
noncomputable def tk_m (k : Int) : Int := if k = 48 then 1 else if k = 1 then 2 else k
theorem tk_m_0 {k : Int} (h : tk_m k = 0) : k = 0 := by
  unfold tk_m at h
  split at h
  · omega
  · split at h <;> omega
theorem tk_m_2 {k : Int} (hk : k = 0 ∨ k = 48 ∨ k = 1 ∨ cl_w k) (h : tk_m k = 2) : k = 1 := by
  unfold tk_m at h
  unfold cl_w at hk
  split at h
  · omega
  · split at h <;> omega
theorem tk_m_w {k : Int} (h : cl_w k) : tk_m k = k := by
  unfold tk_m
  unfold cl_w at h
  rw [if_neg (by omega), if_neg (by omega)]
theorem cl_R_kind {c : Nat → Int} {n p b q : Nat} {k : Int} (h : cl_R c n p k b q) : k = 0 ∨ k = 48 ∨ k = 1 ∨ cl_w k := by
  rcases h.2.2.2.2 with ⟨-, h, -⟩ | ⟨-, -, -, -, -, -, ⟨-, h⟩ | ⟨-, h⟩⟩ | ⟨-, -, -, ⟨h, h'⟩ | ⟨-, h⟩⟩
  · exact Or.inl h
  · exact Or.inr (Or.inl h)
  · exact Or.inr (Or.inr (Or.inl h))
  · rw [h']; exact Or.inr (Or.inr (Or.inr h))
  · exact Or.inr (Or.inr (Or.inl h))
/-- the words that the model has cut -/
noncomputable def tk_B (T : sp_T) (B : Nat → Nat → Int) (n : Nat) : Prop := ∀ j, j < n → B 7 j = tk_m (T.1 j) ∧ B 8 j = T.2.1 j ∧ (T.1 j = 48 → B 9 j = T.2.2 j)
theorem wv_isSign {z : Nat → Int} {A : Nat → Nat → Int} {c : Int} {Q : Int → Prop} (hc : hz_rI c) (h1 : cl_w c → Q 1) (h0 : ¬ cl_w c → Q 0) : wp_isSign z A c Q :=
  have k : cl_w c → (((1 : Int) = 0 ∨ (1 : Int) = 1) ∧ Q 1) := fun h => ⟨Or.inr rfl, h1 h⟩
  ⟨hc, fun d => k (by unfold cl_w; omega), fun q1 => ⟨hc, fun d => k (by unfold cl_w; omega), fun q2 => ⟨hc, fun d => k (by unfold cl_w; omega), fun q3 => ⟨hc, fun d => k (by unfold cl_w; omega), fun q4 => ⟨hc, fun d => k (by unfold cl_w; omega), fun q5 => ⟨hc, fun d => k (by unfold cl_w; omega), fun q6 => ⟨hc, fun d => k (by unfold cl_w; omega), fun q7 => ⟨hc, fun d => k (by unfold cl_w; omega), fun q8 => ⟨hc, fun d => k (by unfold cl_w; omega), fun q9 => ⟨hc, fun d => k (by unfold cl_w; omega), fun q10 => ⟨hc, fun q11 => ⟨Or.inl rfl, h0 (by unfold cl_w; omega)⟩, fun d => k (by unfold cl_w; omega)⟩⟩⟩⟩⟩⟩⟩⟩⟩⟩⟩
theorem wv_cut {T9 : sp_T} {ps : Nat → Nat} {nt : Nat} {z : Nat → Int} {A : Nat → Nat → Int} {Q : (Nat → Int) → (Nat → Nat → Int) → Prop} (hL : 0 ≤ z 5 ∧ z 5 ≤ 4000) (ht : ∀ i : Nat, (i : Int) < z 5 → 32 ≤ A 4 i ∧ A 4 i ≤ 126) (TK : tk_T (A 4) (z 5).toNat T9 ps nt) (hQ : ∀ B, mc_Z A B → mc_T B nt → tk_B T9 B nt → Q (lp_U z 10 (nt : Int)) B) : wp_cut z A Q := by
  intro z0 hz0
  have e5 : ∀ w : Int, lp_U z 10 w 5 = z 5 := fun w => lp_U_other (by decide)
  have e10 : ∀ w : Int, lp_U z 10 w 10 = w := fun w => lp_U_same _ _ _
  rw [hz0]
  intro P hP
  have key : ∀ (k i w : Nat) (B : Nat → Nat → Int) (gd : Int), (z 5).toNat + 1 - i = k → (i : Int) ≤ z 5 + 1 → w ≤ i → mc_Z A B → mc_K B w → tk_B T9 B w →
      ((gd = 1 ∧ (i : Int) ≤ z 5 ∧ (∀ j, j < w → B 7 j ≠ 0 ∧ B 7 j ≠ 2) ∧ w < nt ∧ ps w ≤ i ∧ ∀ j, ps w ≤ j → j < i → A 4 j = 32) ∨ ((gd = 0 ∨ gd = 1 ∧ (i : Int) = z 5 + 1) ∧ 1 ≤ w ∧ (∀ j, j + 1 < w → B 7 j ≠ 0 ∧ B 7 j ≠ 2) ∧ (B 7 (w - 1) = 0 ∨ B 7 (w - 1) = 2) ∧ w = nt)) → P (lp_U z 10 (w : Int)) B gd (i : Int) := by
    intro k
    induction k using Nat.strongRecOn with
    | ind k ih =>
      intro i w B gd hk hi hwi hZ hK hTB hph
      rcases hph with ⟨g1, hi2, hall, hwt, hpi, hbl⟩ | ⟨hg, hw1, hall, hlast, hwt⟩
      · subst g1
        have e4 : B 4 = A 4 := hZ 4 (by decide) (by decide) (by decide)
        have ei : ((i : Int)).toNat = i := by omega
        have ew : ((w : Int)).toNat = w := by omega
        -- a word ends here
        have word : ∀ (C : Nat → Nat → Int) (i2 : Nat), i < i2 → (i2 : Int) ≤ z 5 + 1 → mc_Z A C → mc_K C (w + 1) → (∀ j, j < w → C 7 j ≠ 0 ∧ C 7 j ≠ 2) → (C 7 w = 2 ∨ (C 7 w = 0 ∧ (i2 : Int) = z 5 + 1) ∨ (C 7 w ≠ 0 ∧ C 7 w ≠ 2 ∧ (i2 : Int) ≤ z 5)) → (∀ j, j < w → C 7 j = B 7 j ∧ C 8 j = B 8 j ∧ C 9 j = B 9 j) → (∃ (kc : Int) (q : Nat), cl_R (A 4) (z 5).toNat (ps w) kc i q ∧ (kc = 0 ∨ q = i2) ∧ C 7 w = tk_m kc ∧ C 8 w = (i : Int) ∧ (kc = 48 → C 9 w = tk_v (A 4) i (q - i))) → wp_cut_208 (lp_U z 10 (w : Int)) C (i2 : Int) P Q := by
          intro C i2 hi2' hi3 hZC hKC hallC hlastC hsame hword
          obtain ⟨kc, q9, k1, k2, k3, k4, k5⟩ := hword
          obtain ⟨bb, b1, b2, b3, b4, b5⟩ := TK.2.2 w hwt
          obtain ⟨u1, u2, u3⟩ := cl_R_uniq k1 b1
          have hTC : tk_B T9 C (w + 1) := fun j hj => by
            by_cases ej : j = w
            · rw [ej, k3, k4, u1, b2, u2]
              refine ⟨rfl, rfl, fun q48 => ?_⟩
              rw [k5 (by rw [u1]; exact q48), b3 q48, u2, u3]
            · obtain ⟨e1, e2, e3⟩ := hsame j (by omega)
              rw [e1, e2, e3]
              exact hTB j (by omega)
          have kin := cl_R_kind k1
          have hr := (hKC w (by omega)).1
          have fin : ∀ gd : Int, (gd = 0 ∧ C 7 w = 2) ∨ (gd = 1 ∧ C 7 w ≠ 2) → wp_cut_226 (lp_U z 10 (w : Int)) C (i2 : Int) gd P Q := by
            intro gd hgd z1 hz1
            rw [e10, lp_U_U] at hz1
            rw [hz1]
            have e : (w : Int) + 1 = ((w + 1 : Nat) : Int) := by omega
            rw [e]
            refine ih ((z 5).toNat + 1 - i2) (by omega) i2 (w + 1) C gd rfl hi3 (by omega) hZC hKC hTC ?_
            rcases hgd with ⟨a, b⟩ | ⟨a, b⟩
            · refine Or.inr ⟨Or.inl a, by omega, fun j hj => hallC j (by omega), Or.inr b, ?_⟩
              rw [k3] at b
              have k1' := tk_m_2 kin b
              apply Classical.byContradiction
              intro q
              exact (b4 (by omega)).2 (by rw [← u1]; exact k1')
            · rcases hlastC with c | ⟨c, d⟩ | ⟨c, d, f⟩
              · exact absurd c b
              · refine Or.inr ⟨Or.inr ⟨a, d⟩, by omega, fun j hj => hallC j (by omega), Or.inl c, ?_⟩
                rw [k3] at c
                have k1' := tk_m_0 c
                apply Classical.byContradiction
                intro q
                exact (b4 (by omega)).1 (by rw [← u1]; exact k1')
              · rw [k3] at c d
                have w1 : w + 1 < nt := by
                  apply Classical.byContradiction
                  intro q
                  rcases b5 (by omega) with q | q
                  · rw [u1, q] at c; exact c rfl
                  · rw [u1, q] at d; exact d rfl
                have qi : q9 = i2 := by
                  rcases k2 with k2 | k2
                  · rw [k2] at c; exact absurd rfl c
                  · exact k2
                refine Or.inl ⟨a, f, fun j hj => ?_, w1, by omega, fun j j1 j2 => by omega⟩
                by_cases ej : j = w
                · subst ej
                  rw [k3]
                  exact ⟨c, d⟩
                · exact hallC j (by omega)
          rw [wp_cut_208, e10, ew]
          exact ⟨⟨by omega, by omega⟩, ⟨by omega, by omega⟩, fun c => fin 0 (Or.inl ⟨rfl, c⟩), fun c => fin 1 (Or.inr ⟨rfl, c⟩)⟩
        have main : ∀ c : Int, (((i : Int) = z 5 ∧ c = 0) ∨ ((i : Int) < z 5 ∧ c = A 4 i)) → wp_cut_39 (lp_U z 10 (w : Int)) B 1 (i : Int) c P Q := by
          intro c hc x4 hx4
          have hcr : 0 ≤ c ∧ c ≤ 126 := by
            rcases hc with h | h
            · omega
            · have := ht i h.1
              omega
          have ex4 : x4 = ((i + 1 : Nat) : Int) := by omega
          rw [ex4]
          refine ⟨⟨by omega, by omega⟩, fun bl => ?_, fun nb => ?_⟩
          · have hlt : (i : Int) < z 5 := by rcases hc with h | h <;> omega
            exact ih ((z 5).toNat + 1 - (i + 1)) (by omega) (i + 1) w B 1 rfl (by omega) (by omega) hZ hK hTB (Or.inl ⟨rfl, by omega, hall, hwt, by omega, fun j j1 j2 => by
              by_cases ej : j = i
              · rw [ej]; rcases hc with h | h <;> omega
              · exact hbl j j1 (by omega)⟩)
          · -- the word's kind, place and number
            have put : ∀ kd : Int, (kd = 0 ∧ (i : Int) = z 5 ∧ c = 0) ∨ (kd = 2 ∧ (i : Int) < z 5 ∧ c = A 4 i) ∨ (kd = c ∧ cl_w c ∧ (i : Int) < z 5 ∧ c = A 4 i) → (kd = 2 → ¬ cl_w c) → wp_cut_83 (lp_U z 10 (w : Int)) B (i : Int) c ((i + 1 : Nat) : Int) kd (w : Int) P Q := by
              intro kd hkd hnw
              have c93 : cl_w c → 40 ≤ c ∧ c ≤ 93 := fun q => by unfold cl_w at q; omega
              rw [wp_cut_83, e10]
              refine ⟨⟨by omega, by omega⟩, fun C1 hC1 => ⟨⟨by omega, by omega⟩, fun C2 hC2 => ⟨⟨by omega, by omega⟩, fun C3 hC3 => ?_⟩⟩⟩
              have hZ3 : mc_Z A C3 := mc_Z_trans hZ (mc_Z_trans (B := C1) (by rw [hC1]; exact mc_Z_s (Or.inl rfl)) (mc_Z_trans (B := C2) (by rw [hC2]; exact mc_Z_s (Or.inr (Or.inl rfl))) (by rw [hC3]; exact mc_Z_s (Or.inr (Or.inr rfl)))))
              have h7 : ∀ j, C3 7 j = if j = w then kd else B 7 j := fun j => by
                rw [hC3, hb_s_other (by decide), hC2, hb_s_other (by decide), hC1, lq_s_fun]
                unfold hz_u
                rw [ew]
              have h8 : ∀ j, C3 8 j = if j = w then (i : Int) else B 8 j := fun j => by
                rw [hC3, hb_s_other (by decide), hC2, lq_s_fun]
                unfold hz_u
                rw [ew, hC1, hb_s_other (by decide)]
              have h9 : ∀ j, C3 9 j = if j = w then 0 else B 9 j := fun j => by
                rw [hC3, lq_s_fun]
                unfold hz_u
                rw [ew, hC2, hb_s_other (by decide), hC1, hb_s_other (by decide)]
              have hK3 : mc_K C3 (w + 1) := fun j hj => by
                rw [h7, h8, h9]
                by_cases ej : j = w
                · rw [if_pos ej, if_pos ej, if_pos ej]
                  refine ⟨by rcases hkd with h | h | h; omega; omega; have := c93 h.2.1; omega, by omega, by omega⟩
                · rw [if_neg ej, if_neg ej, if_neg ej]
                  exact hK j (by omega)
              have hall3 : ∀ j, j < w → C3 7 j ≠ 0 ∧ C3 7 j ≠ 2 := fun j hj => by
                rw [h7, if_neg (by omega)]
                exact hall j hj
              have h7w : C3 7 w = kd := by rw [h7, if_pos rfl]
              have hsm3 : ∀ j, j < w → C3 7 j = B 7 j ∧ C3 8 j = B 8 j ∧ C3 9 j = B 9 j := fun j hj => by
                rw [h7, h8, h9, if_neg (by omega), if_neg (by omega), if_neg (by omega)]
                exact ⟨rfl, rfl, rfl⟩
              have h8w : C3 8 w = (i : Int) := by rw [h8, if_pos rfl]
              refine wq_isDigit ⟨by omega, by omega⟩ (fun d1 d2 => ⟨⟨by decide, by decide⟩, fun f => by omega, fun _ => ?_⟩) (fun nd => ⟨⟨by decide, by decide⟩, fun _ => ?_, fun f => absurd rfl f⟩)
              · -- a number
                have hlt : (i : Int) < z 5 := by rcases hkd with h | h | h <;> omega
                have hcA : c = A 4 i := by rcases hkd with h | h | h <;> omega
                intro P2 hP2
                have key2 : ∀ (k2 l : Nat) (D : Nat → Nat → Int), (z 5).toNat - (i + l) = k2 → ((i + l : Nat) : Int) ≤ z 5 → mc_Z A D → D 7 = C3 7 → D 8 = C3 8 → (∀ j, j ≠ w → D 9 j = C3 9 j) → 0 ≤ D 9 w → D 9 w ≤ (if l = 0 then 0 else if l = 1 then 9 else if l = 2 then 99 else if l = 3 then 999 else 9999) → (l ≤ 4 → D 9 w = tk_v (A 4) i l) → (∀ q, i ≤ q → q < i + l → cl_d (A 4 q)) → P2 D ((i + l : Nat) : Int) := by
                  intro k2
                  induction k2 with
                  | zero =>
                    intro l D hk2 hl hZD h7D h8D h9D n0 n1 hval hdig
                    refine hP2 D _ ?_
                    rw [e5]
                    refine ⟨⟨by omega, by omega⟩, ⟨by omega, by omega⟩, fun _ => ?_, fun f => by omega⟩
                    have fin : ∀ kd : Int, ((l ≤ 4 ∧ kd = 1) ∨ (4 < l ∧ kd = 2)) → wp_cut_207 (lp_U z 10 (w : Int)) D ((i + l : Nat) : Int) kd (w : Int) P Q := by
                      intro kd hkd'
                      have l0 : 0 < l := by omega
                      refine ⟨⟨by omega, by omega⟩, fun E hE => word E (i + l) (by omega) (by omega) (mc_Z_trans hZD (by rw [hE]; exact mc_Z_s (Or.inl rfl))) (fun j hj => ?_) (fun j hj => ?_) ?_ (fun j hj => ?_) ?_⟩
                      · have x7 : E 7 j = if j = w then kd else C3 7 j := by
                          rw [hE, lq_s_fun, h7D]
                          unfold hz_u
                          rw [ew]
                        have x8 : E 8 j = C3 8 j := by rw [hE, hb_s_other (by decide), h8D]
                        have x9 : E 9 = D 9 := by rw [hE, hb_s_other (by decide)]
                        rw [x7, x8, x9]
                        by_cases ej : j = w
                        · subst ej
                          rw [if_pos rfl]
                          refine ⟨by omega, ⟨n0, ?_⟩, (hK3 j (by omega)).2.2⟩
                          split at n1
                          · omega
                          · split at n1
                            · omega
                            · split at n1
                              · omega
                              · split at n1 <;> omega
                        · rw [if_neg ej, h9D j ej]
                          exact hK3 j hj
                      · rw [hE, lq_s_fun, h7D]
                        unfold hz_u
                        rw [if_neg (by omega)]
                        exact hall3 j hj
                      · have x7 : E 7 w = kd := by
                          rw [hE, lq_s_fun]
                          unfold hz_u
                          rw [if_pos ew.symm]
                        rw [x7]
                        rcases hkd' with h | h
                        · exact Or.inr (Or.inr ⟨by omega, by omega, by omega⟩)
                        · exact Or.inl h.2
                      · have x7 : E 7 j = C3 7 j := by
                          rw [hE, lq_s_fun, h7D]
                          unfold hz_u
                          rw [if_neg (by omega)]
                        have x8 : E 8 j = C3 8 j := by rw [hE, hb_s_other (by decide), h8D]
                        have x9 : E 9 = D 9 := by rw [hE, hb_s_other (by decide)]
                        rw [x7, x8, x9, h9D j (by omega)]
                        exact hsm3 j hj
                      · have x7 : E 7 w = kd := by
                          rw [hE, lq_s_fun]
                          unfold hz_u
                          rw [if_pos ew.symm]
                        have x8 : E 8 w = C3 8 w := by rw [hE, hb_s_other (by decide), h8D]
                        have x9 : E 9 = D 9 := by rw [hE, hb_s_other (by decide)]
                        rw [x7, x8, x9, h8w]
                        have dig : cl_d (A 4 i) := hdig i (Nat.le_refl i) (by omega)
                        have nb' : ¬ A 4 i = 32 := fun q => by unfold cl_d at dig; omega
                        rcases hkd' with ⟨l4, h⟩ | ⟨l4, h⟩
                        · refine ⟨48, i + l, ⟨hpi, by omega, hbl, fun _ => nb', Or.inr (Or.inl ⟨by omega, dig, by omega, by omega, hdig, ?_, Or.inl ⟨by omega, rfl⟩⟩)⟩, Or.inr rfl, h, rfl, fun _ => by rw [hval l4, show i + l - i = l by omega]⟩
                          intro q; omega
                        · refine ⟨1, i + l, ⟨hpi, by omega, hbl, fun _ => nb', Or.inr (Or.inl ⟨by omega, dig, by omega, by omega, hdig, ?_, Or.inr ⟨by omega, rfl⟩⟩)⟩, Or.inr rfl, h, rfl, fun q => by omega⟩
                          intro q; omega
                    rw [wp_cut_186, e10]
                    exact ⟨⟨by omega, by omega⟩, fun q => fin 1 (Or.inl ⟨by omega, rfl⟩), fun q => fin 2 (Or.inr ⟨by omega, rfl⟩)⟩
                  | succ k2 ih2 =>
                    intro l D hk2 hl hZD h7D h8D h9D n0 n1 hval hdig
                    have n9 : D 9 w ≤ 9999 := by
                      split at n1
                      · omega
                      · split at n1
                        · omega
                        · split at n1
                          · omega
                          · split at n1 <;> omega
                    have hch := ht (i + l) (by omega)
                    have el : (((i + l : Nat) : Int)).toNat = i + l := by omega
                    have e4D : D 4 = A 4 := hZD 4 (by decide) (by decide) (by decide)
                    have fin : ∀ kd : Int, 0 < l → ¬ cl_d (A 4 (i + l)) → ((l ≤ 4 ∧ kd = 1) ∨ (4 < l ∧ kd = 2)) → wp_cut_207 (lp_U z 10 (w : Int)) D ((i + l : Nat) : Int) kd (w : Int) P Q := by
                      intro kd l0 hnd hkd'
                      refine ⟨⟨by omega, by omega⟩, fun E hE => word E (i + l) (by omega) (by omega) (mc_Z_trans hZD (by rw [hE]; exact mc_Z_s (Or.inl rfl))) (fun j hj => ?_) (fun j hj => ?_) ?_ (fun j hj => ?_) ?_⟩
                      · have x7 : E 7 j = if j = w then kd else C3 7 j := by
                          rw [hE, lq_s_fun, h7D]
                          unfold hz_u
                          rw [ew]
                        have x8 : E 8 j = C3 8 j := by rw [hE, hb_s_other (by decide), h8D]
                        have x9 : E 9 = D 9 := by rw [hE, hb_s_other (by decide)]
                        rw [x7, x8, x9]
                        by_cases ej : j = w
                        · subst ej
                          rw [if_pos rfl]
                          exact ⟨by omega, ⟨n0, n9⟩, (hK3 j (by omega)).2.2⟩
                        · rw [if_neg ej, h9D j ej]
                          exact hK3 j hj
                      · rw [hE, lq_s_fun, h7D]
                        unfold hz_u
                        rw [if_neg (by omega)]
                        exact hall3 j hj
                      · have x7 : E 7 w = kd := by
                          rw [hE, lq_s_fun]
                          unfold hz_u
                          rw [if_pos ew.symm]
                        rw [x7]
                        rcases hkd' with h | h
                        · exact Or.inr (Or.inr ⟨by omega, by omega, by omega⟩)
                        · exact Or.inl h.2
                      · have x7 : E 7 j = C3 7 j := by
                          rw [hE, lq_s_fun, h7D]
                          unfold hz_u
                          rw [if_neg (by omega)]
                        have x8 : E 8 j = C3 8 j := by rw [hE, hb_s_other (by decide), h8D]
                        have x9 : E 9 = D 9 := by rw [hE, hb_s_other (by decide)]
                        rw [x7, x8, x9, h9D j (by omega)]
                        exact hsm3 j hj
                      · have x7 : E 7 w = kd := by
                          rw [hE, lq_s_fun]
                          unfold hz_u
                          rw [if_pos ew.symm]
                        have x8 : E 8 w = C3 8 w := by rw [hE, hb_s_other (by decide), h8D]
                        have x9 : E 9 = D 9 := by rw [hE, hb_s_other (by decide)]
                        rw [x7, x8, x9, h8w]
                        have dig : cl_d (A 4 i) := hdig i (Nat.le_refl i) (by omega)
                        have nb' : ¬ A 4 i = 32 := fun q => by unfold cl_d at dig; omega
                        rcases hkd' with ⟨l4, h⟩ | ⟨l4, h⟩
                        · refine ⟨48, i + l, ⟨hpi, by omega, hbl, fun _ => nb', Or.inr (Or.inl ⟨by omega, dig, by omega, by omega, hdig, ?_, Or.inl ⟨by omega, rfl⟩⟩)⟩, Or.inr rfl, h, rfl, fun _ => by rw [hval l4, show i + l - i = l by omega]⟩
                          exact fun _ => hnd
                        · refine ⟨1, i + l, ⟨hpi, by omega, hbl, fun _ => nb', Or.inr (Or.inl ⟨by omega, dig, by omega, by omega, hdig, ?_, Or.inr ⟨by omega, rfl⟩⟩)⟩, Or.inr rfl, h, rfl, fun q => by omega⟩
                          exact fun _ => hnd
                    refine hP2 D _ ?_
                    rw [e5]
                    refine ⟨⟨by omega, by omega⟩, ⟨by omega, by omega⟩, fun f => by omega, fun _ => ⟨⟨by omega, by omega⟩, ?_⟩⟩
                    rw [el, e4D]
                    refine wq_isDigit ⟨by omega, by omega⟩ (fun q1 q2 => ⟨⟨by decide, by decide⟩, fun f => by omega, fun _ => ⟨⟨by omega, by omega⟩, fun f4 => ?_, fun f4 => ?_⟩⟩) (fun nd => ⟨⟨by decide, by decide⟩, fun _ => ?_, fun f => absurd rfl f⟩)
                    · rw [e10]
                      refine ⟨⟨by omega, by omega⟩, fun E hE x5 hx5 => ?_⟩
                      have e : x5 = ((i + (l + 1) : Nat) : Int) := by omega
                      have e9 : ∀ j, E 9 j = if j = w then 0 else D 9 j := fun j => by
                        rw [hE, lq_s_fun]
                        unfold hz_u
                        rw [ew]
                      rw [e]
                      refine ih2 (l + 1) E (by omega) (by omega) (mc_Z_trans hZD (by rw [hE]; exact mc_Z_s (Or.inr (Or.inr rfl)))) (by rw [hE, hb_s_other (by decide)]; exact h7D) (by rw [hE, hb_s_other (by decide)]; exact h8D) (fun j hj => by rw [e9, if_neg hj]; exact h9D j hj) (by rw [e9, if_pos rfl]; exact Int.le_refl _) ?_ (fun q => by omega) (fun q qa qb => by
                        by_cases eq : q = i + l
                        · rw [eq]; exact ⟨q1, q2⟩
                        · exact hdig q qa (by omega))
                      rw [e9, if_pos rfl, if_neg (by omega), if_neg (by omega), if_neg (by omega), if_neg (by omega)]
                      omega
                    · rw [e10, ew]
                      refine ⟨⟨by omega, by omega⟩, ⟨by omega, by omega⟩, ⟨by omega, by omega⟩, fun E hE x5 hx5 => ?_⟩
                      have e : x5 = ((i + (l + 1) : Nat) : Int) := by omega
                      have e9 : ∀ j, E 9 j = if j = w then 10 * D 9 w + A 4 (i + l) - 48 else D 9 j := fun j => by
                        rw [hE, lq_s_fun]
                        unfold hz_u
                        rw [ew]
                      rw [e]
                      refine ih2 (l + 1) E (by omega) (by omega) (mc_Z_trans hZD (by rw [hE]; exact mc_Z_s (Or.inr (Or.inr rfl)))) (by rw [hE, hb_s_other (by decide)]; exact h7D) (by rw [hE, hb_s_other (by decide)]; exact h8D) (fun j hj => by rw [e9, if_neg hj]; exact h9D j hj) (by rw [e9, if_pos rfl]; omega) ?_ (fun q => by rw [e9, if_pos rfl, hval (by omega)]; rfl) (fun q qa qb => by
                        by_cases eq : q = i + l
                        · rw [eq]; exact ⟨q1, q2⟩
                        · exact hdig q qa (by omega))
                      rw [e9, if_pos rfl]
                      rcases (show l = 0 ∨ l = 1 ∨ l = 2 ∨ l = 3 by omega) with q | q | q | q <;> subst q <;> simp at n1 ⊢ <;> omega
                    · have hl0 : 0 < l := by
                        apply Nat.pos_of_ne_zero
                        intro e0
                        subst e0
                        rw [Nat.add_zero] at nd
                        rw [hcA] at d1 d2
                        exact nd ⟨d1, d2⟩
                      rw [wp_cut_186, e10]
                      exact ⟨⟨by omega, by omega⟩, fun q => fin 1 hl0 nd (Or.inl ⟨by omega, rfl⟩), fun q => fin 2 hl0 nd (Or.inr ⟨by omega, rfl⟩)⟩
                have h := key2 _ 0 C3 rfl (by omega) hZ3 rfl rfl (fun _ _ => rfl) (by rw [h9, if_pos rfl]; exact Int.le_refl _) (by rw [h9, if_pos rfl]; simp) (fun _ => by rw [h9, if_pos rfl]; rfl) (fun q qa qb => by omega)
                exact h
              · refine word C3 (i + 1) (by omega) (by omega) hZ3 hK3 hall3 ?_ hsm3 ?_
                · rw [h7w]
                  rcases hkd with h | h | h
                  · exact Or.inr (Or.inl ⟨h.1, by omega⟩)
                  · exact Or.inl h.1
                  · have := c93 h.2.1
                    exact Or.inr (Or.inr ⟨by omega, by omega, by omega⟩)
                · rw [h7w, h8w]
                  rcases hkd with ⟨h1, h2, h3⟩ | ⟨h1, h2, h3⟩ | ⟨h1, h2, h3, h4⟩
                  · exact ⟨0, i, ⟨hpi, by omega, hbl, fun q => by omega, Or.inl ⟨by omega, rfl, by omega⟩⟩, Or.inl rfl, h1, rfl, fun q => by omega⟩
                  · refine ⟨1, i + 1, ⟨hpi, by omega, hbl, fun _ => by rw [← h3]; exact nb, Or.inr (Or.inr ⟨by omega, by rw [← h3]; exact nd, rfl, Or.inr ⟨by rw [← h3]; exact hnw h1, rfl⟩⟩)⟩, Or.inr rfl, h1, rfl, fun q => by omega⟩
                  · refine ⟨c, i + 1, ⟨hpi, by omega, hbl, fun _ => by rw [← h4]; exact nb, Or.inr (Or.inr ⟨by omega, by rw [← h4]; exact nd, rfl, Or.inl ⟨by rw [← h4]; exact h2, h4⟩⟩)⟩, Or.inr rfl, ?_, rfl, fun q => ?_⟩
                    · rw [h1]
                      exact (tk_m_w h2).symm
                    · unfold cl_w at h2; omega
            rw [e10, e5]
            refine ⟨⟨by omega, by omega⟩, ⟨by omega, by omega⟩, fun ne => ?_, fun e => put 0 ?_ (fun q => by omega)⟩
            · have hlt : (i : Int) < z 5 := by rcases hc with h | h <;> omega
              have hcA : c = A 4 i := by rcases hc with h | h <;> omega
              exact wv_isSign ⟨by omega, by omega⟩ (fun s1 => ⟨⟨by decide, by decide⟩, fun f => by omega, fun _ => put c (Or.inr (Or.inr ⟨rfl, s1, hlt, hcA⟩)) (fun q => by unfold cl_w at s1; omega)⟩) (fun s0 => ⟨⟨by decide, by decide⟩, fun _ => put 2 (Or.inr (Or.inl ⟨rfl, hlt, hcA⟩)) (fun _ => s0), fun f => absurd rfl f⟩)
            · rcases hc with h | h
              · exact Or.inl ⟨rfl, h.1, h.2⟩
              · omega
        refine hP _ B 1 _ ?_
        rw [e5]
        refine ⟨⟨by decide, by decide⟩, fun c => by omega, fun _ => ⟨⟨by omega, by omega⟩, ⟨by omega, by omega⟩, fun c => by omega, fun _ => ⟨⟨by omega, by omega⟩, ⟨by omega, by omega⟩, fun c => main 0 (Or.inl ⟨by omega, rfl⟩), fun c => ⟨⟨by omega, by omega⟩, ?_⟩⟩⟩⟩
        rw [ei, e4]
        exact main _ (Or.inr ⟨by omega, rfl⟩)
      · have hq : Q (lp_U z 10 (w : Int)) B := by
          rw [hwt] at hw1 hK hall hlast hwi hTB ⊢
          exact hQ B hZ ⟨hw1, by omega, hK, hall, hlast⟩ hTB
        refine hP _ B gd _ ?_
        rw [e5]
        refine ⟨by rcases hg with h | h <;> exact ⟨by omega, by omega⟩, fun _ => hq, fun c => ⟨⟨by omega, by omega⟩, ⟨by omega, by omega⟩, fun _ => hq, fun d => ?_⟩⟩
        rcases hg with h | h <;> omega
  have h := key _ 0 0 A 1 rfl (by omega) (by omega) (fun k _ _ _ => rfl) (fun j hj => by omega) (fun j hj => by omega) (Or.inl ⟨rfl, by omega, fun j hj => by omega, TK.2.1, by rw [TK.1]; exact Nat.le_refl 0, fun j j1 j2 => by omega⟩)
  exact h
