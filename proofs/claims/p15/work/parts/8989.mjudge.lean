/-- all numbers but one are as they were -/
noncomputable def mn_S (j : Int) (A B : Nat → Nat → Int) : Prop := ∀ u : Int, 4231 ≤ u → u < 4239 → u ≠ 4231 + 2 * j → u ≠ 4231 + 2 * j + 1 → hb_v B u = hb_v A u
theorem mn_S_trans {j : Int} {A B C : Nat → Nat → Int} (h1 : mn_S j A B) (h2 : mn_S j B C) : mn_S j A C := fun u a b c d => (h2 u a b c d).trans (h1 u a b c d)
theorem mn_S_X {j : Int} {ws : Int → Prop} {A B : Nat → Nat → Int} (hX : hb_X ws A B) (hw : ∀ u, u < 4239 → ¬ ws u) (hok : hb_ok A) : mn_S j A B := fun u a b _ _ => hb_X_v hX (by omega) (by omega) (hw u b) (hok u (by omega) (by omega))
theorem mn_S_K {j : Int} {A B : Nat → Nat → Int} (h0 : B 0 = A 0) (h1 : B 1 = A 1) (h2 : B 2 = A 2) : mn_S j A B := fun u _ _ _ _ => by
  unfold hb_v hb_z hb_g
  rw [h0, h1, h2]
noncomputable def my_k (q n : Nat) (m : Nat → Int) (V : (Nat → Int) → Int) (C0 D9 p : Int) (B : Nat → Nat → Int) (k : Nat → Int) : Prop := ∃ N : Int, mf_H B (4231 + 2 * (1 + p)) N D9 ∧ N * C0 = D9 * V k ∧ rb_pl n m k ∧ ∀ s, s < n → B 53 (10 * q + s) = k s
noncomputable def my_T (q n : Nat) (m : Nat → Int) (V : (Nat → Int) → Int) (C0 D9 p : Int) (c : Nat → Int) (B : Nat → Nat → Int) : Prop := B 51 (1 + p).toNat = 1 ∧ ∃ k : Nat → Int, my_k q n m V C0 D9 p B k ∧ ((∀ s, s < n → k s = c s) ∨ rb_lt n k c) ∧ ∀ x, rb_pl n m x → ((∀ s, s < n → x s = c s) ∨ rb_lt n x c) → cg_d (q : Int) * V x ≤ cg_d (q : Int) * V k ∧ (rb_lt n x k → cg_d (q : Int) * V x < cg_d (q : Int) * V k)
noncomputable def my_U (q n : Nat) (m : Nat → Int) (V : (Nat → Int) → Int) (C0 D9 p : Int) (c : Nat → Int) (B : Nat → Nat → Int) : Prop := (B 51 (1 + p).toNat = 0 ∧ ∀ x, rb_pl n m x → ¬ rb_lt n x c) ∨ (B 51 (1 + p).toNat = 1 ∧ ∃ k : Nat → Int, my_k q n m V C0 D9 p B k ∧ rb_lt n k c ∧ ∀ x, rb_pl n m x → rb_lt n x c → cg_d (q : Int) * V x ≤ cg_d (q : Int) * V k ∧ (rb_lt n x k → cg_d (q : Int) * V x < cg_d (q : Int) * V k))
noncomputable def my_E (q n : Nat) (m : Nat → Int) (V : (Nat → Int) → Int) (C0 D9 p : Int) (B : Nat → Nat → Int) : Prop := B 51 (1 + p).toNat = 1 ∧ ∃ k : Nat → Int, (∀ s, s < n → B 53 (10 * q + s) = k s) ∧ rb_B n m (fun x => cg_d (q : Int) * V x) k ∧ ∃ N : Int, mf_H B (4231 + 2 * (1 + p)) N D9 ∧ N * C0 = D9 * V k
theorem my_k_keep {q n : Nat} {m : Nat → Int} {V : (Nat → Int) → Int} {C0 D9 p : Int} {B C : Nat → Nat → Int} {k : Nat → Int} (hF : ∀ N, mf_H B (4231 + 2 * (1 + p)) N D9 → mf_H C (4231 + 2 * (1 + p)) N D9) (h53 : C 53 = B 53) (h : my_k q n m V C0 D9 p B k) : my_k q n m V C0 D9 p C k := by
  obtain ⟨N, a, b, c, d⟩ := h
  exact ⟨N, hF N a, b, c, by rw [h53]; exact d⟩
theorem my_U_keep {q n : Nat} {m : Nat → Int} {V : (Nat → Int) → Int} {C0 D9 p : Int} {c : Nat → Int} {B C : Nat → Nat → Int} (hF : ∀ N, mf_H B (4231 + 2 * (1 + p)) N D9 → mf_H C (4231 + 2 * (1 + p)) N D9) (h51 : C 51 = B 51) (h53 : C 53 = B 53) (h : my_U q n m V C0 D9 p c B) : my_U q n m V C0 D9 p c C := by
  rcases h with ⟨a, b⟩ | ⟨a, k, b, d, e⟩
  · exact Or.inl ⟨by rw [h51]; exact a, b⟩
  · exact Or.inr ⟨by rw [h51]; exact a, k, my_k_keep hF h53 b, d, e⟩
noncomputable def my_f (q : Nat) (p : Int) (A B : Nat → Nat → Int) : Prop := ((∀ i, i ≠ (1 + p).toNat → B 51 i = A 51 i) ∧ ∀ i, (i < 10 * q ∨ 10 * q + 10 ≤ i) → B 53 i = A 53 i) ∧ mn_S (1 + p) A B
set_option maxHeartbeats 8000000 in
theorem wy_judge {V : (Nat → Int) → Int} {C0 : Int} {z : Nat → Int} {A : Nat → Nat → Int} {p : Int} {Q : (Nat → Int) → (Nat → Nat → Int) → Prop} (hI : mi_I z A) (hp : hz_rI p) (HA : (p = 1 ∨ p = 2) → z 34 = 1 → me_G z A (p - 1).toNat → 0 < C0 ∧ (∀ x y : Nat → Int, (∀ s, s < (A 26 (2 * (z 32).toNat + (2 - p).toNat)).toNat → x s = y s) → V x = V y) ∧ ∀ x, rb_pl (A 26 (2 * (z 32).toNat + (2 - p).toNat)).toNat (fun s => A 28 (20 * (z 32).toNat + (10 * (2 - p).toNat + s))) x → ∃ I : Nat → Nat → Int, mj_I A (z 32).toNat (2 - p).toNat C0 x I ∧ cS (fun e => I e (A 21 (400 * (z 32).toNat + e)).toNat) (A 14 (z 32).toNat).toNat = V x) (hQ : ∀ t B, mi_I (lp_U z 3 t) B → me_0 A B → ((t = 1 ∧ ¬ (p = 1 ∨ p = 2) ∧ B = A) ∨ (t = 2 ∧ ((p = 1 ∨ p = 2) ∧ ¬ (z 34 = 1 ∧ me_G z A (p - 1).toNat)) ∧ B = A) ∨ (t = 0 ∧ ((p = 1 ∨ p = 2) ∧ z 34 = 1 ∧ me_G z A (p - 1).toNat) ∧ my_f (2 - p).toNat p A B ∧ my_E (2 - p).toNat (A 26 (2 * (z 32).toNat + (2 - p).toNat)).toNat (fun s => A 28 (20 * (z 32).toNat + (10 * (2 - p).toNat + s))) V C0 (A 25 (z 32).toNat * mf_P (A 50) (fun _ => false) 80) p B)) → Q (lp_U z 3 t) B) : wp_judge z A p Q := by
  have no : ∀ t : Int, 1 ≤ t → t ≤ 2 → ((t = 1 ∧ ¬ (p = 1 ∨ p = 2)) ∨ (t = 2 ∧ (p = 1 ∨ p = 2) ∧ ¬ (z 34 = 1 ∧ me_G z A (p - 1).toNat))) → wp_judge_35 z A p t Q := by
    intro t t1 t2 why z1 hz1
    subst hz1
    rw [lp_U_same]
    exact ⟨⟨by omega, by omega⟩, fun c => by omega, fun _ => hQ t A (mi_3 hI t) (fun _ _ _ => rfl) (by rcases why with h | h; exact Or.inl ⟨h.1, h.2, rfl⟩; exact Or.inr (Or.inl ⟨h.1, h.2, rfl⟩))⟩
  have yes : (p = 1 ∨ p = 2) → wp_judge_15 z A p Q := by
    intro hp2
    refine ⟨mi_k hI, fun c => no 2 (by decide) (by decide) (Or.inr ⟨rfl, hp2, fun q => by have := q.1; omega⟩), fun c => ?_⟩
    have hk : z 34 = 1 := hI.2.2.1.resolve_left c
    refine wl_isGood hI hk hp2 (fun G1 => ⟨by decide, fun _ z1 hz1 => ?_, fun q => absurd q (by decide)⟩) (fun n1 => ⟨by decide, fun q => absurd rfl q, fun _ => no 2 (by decide) (by decide) (Or.inr ⟨rfl, hp2, fun q => n1 q.2⟩)⟩)
    subst hz1
    have hI1 := mi_3 hI 0
    obtain ⟨g, hg, hgz, hgt⟩ := mi_g hI1
    have hG := hI1.2.2.2.2.2.1 hk
    rw [hgt] at hG
    rw [lp_U_same]
    refine ⟨⟨by decide, by decide⟩, fun _ x2 hx2 => ⟨⟨by omega, by omega⟩, fun A24 hA24 => ?_⟩, fun d => by omega⟩
    obtain ⟨q, hq⟩ : ∃ q : Nat, x2 = (q : Int) := ⟨x2.toNat, by omega⟩
    have hq2 : q < 2 := by omega
    subst hq
    have eq9 : (2 - p).toNat = q := by omega
    have eg9 : (z 32).toNat = g := hgt
    obtain ⟨HC, HV, HI⟩ := HA hp2 hk G1
    rw [eq9, eg9] at HV HI hQ
    have hS : mg_S A g q := by
      rcases (show q = 0 ∨ q = 1 by omega) with e | e <;> subst e
      · exact hG.1.2.1
      · exact hG.1.2.2.1
    obtain ⟨n, hn⟩ : ∃ n : Nat, (A 26 (2 * g + q)).toNat = n := ⟨_, rfl⟩
    have en : A 26 (2 * g + q) = (n : Int) := by have := hS.1; omega
    have hn10 : n ≤ 10 := by have := hS.1; omega
    rw [hn] at HV HI hQ
    obtain ⟨D9, hD9⟩ : ∃ D9 : Int, D9 = A 25 g * mf_P (A 50) (fun _ => false) 80 := ⟨_, rfl⟩
    rw [← hD9] at hQ
    have D9p : 0 < D9 := by
      rw [hD9]
      have k1 := (mf_P_range (A 50) (fun _ => false) 80 (fun i hi => (hG.2.2 i hi).2)).1
      have k2 := hG.1.2.2.2.2.2.1
      exact Int.mul_pos (by omega) (by omega)
    obtain ⟨m, hm⟩ : ∃ m : Nat → Int, m = fun s => A 28 (20 * g + (10 * q + s)) := ⟨_, rfl⟩
    rw [← hm] at HI hQ
    have hcg : (p = 1 ∧ cg_d (q : Int) = -1) ∨ (p = 2 ∧ cg_d (q : Int) = 1) := by
      rcases hp2 with e | e
      · exact Or.inl ⟨e, by unfold cg_d; rw [if_neg (by omega)]⟩
      · exact Or.inr ⟨e, by unfold cg_d; rw [if_pos (by omega)]⟩
    have hK24 : lq_K 51 A A24 := by rw [hA24]; exact lq_K_s _ _ _ _
    have h5124 : ∀ s, A24 51 s = 0 ∨ A24 51 s = 1 := fun s => by
      rw [hA24, lq_s_fun]
      unfold hz_u
      split
      · exact Or.inl rfl
      · exact hI1.2.2.2.2.2.2.2.2.1 s
    refine wq_firstPlan hq2 (fun A26 hK26 h26 => ?_)
    have hZ26 : ms_Z A A26 := ms_Z_trans (ms_Z_K (Or.inl rfl) hK24) (ms_Z_K (Or.inr (Or.inl rfl)) hK26)
    have hok26 : hb_ok A26 := hb_ok_K (by decide) hK26 (hb_ok_K (by decide) hK24 hI1.2.2.2.2.2.2.1)
    intro P hP
    -- a plan that is one
    have key : ∀ (k : Nat) (B : Nat → Nat → Int) (mo : Int), (if mo = 0 then 0 else (lq_m (fun s => A 28 (20 * g + s)) (10 * q) n (B 52)).toNat + 1) = k → (mo = 0 ∨ mo = 1) → ms_Z A B → hb_ok B → (∀ s, 0 ≤ B 52 s ∧ B 52 s ≤ 100) → (∀ s, B 51 s = 0 ∨ B 51 s = 1) → (∀ s, 10 * q ≤ s → s < 10 * q + n → 0 ≤ B 52 s ∧ B 52 s < A 28 (20 * g + s)) → my_f q p A B → ((mo = 1 ∧ my_U q n m V C0 D9 p (fun s => B 52 (10 * q + s)) B) ∨ (mo = 0 ∧ my_E q n m V C0 D9 p B)) → P B mo := by
      intro k
      induction k using Nat.strongRecOn with
      | ind k ih =>
        intro B mo hk' hmo hZ hokB h52 h51 hpl hfr hinv
        have plB : rb_pl n m (fun s => B 52 (10 * q + s)) := fun s hs => by
          rw [hm]
          exact hpl (10 * q + s) (by omega) (by omega)
        have e26 : B 26 = A 26 := hZ 26 (by decide) (by decide) (by decide) (by decide) (by decide) (by decide) (by decide)
        have e28 : B 28 = A 28 := hZ 28 (by decide) (by decide) (by decide) (by decide) (by decide) (by decide) (by decide)
        refine hP B mo ⟨by rcases hmo with h | h <;> rw [h] <;> exact ⟨by decide, by decide⟩, fun c0 => hQ 0 B ?_ (me_0_of hZ) (Or.inr (Or.inr ⟨rfl, ⟨hp2, hk, G1⟩, hfr, by
          rcases hinv with q9 | q9
          · have := q9.1; omega
          · exact q9.2⟩)), fun c1 => ?_⟩
        · exact mi_keep hI1 (fun _ _ _ => rfl) hI1.2.2.2.2.2.2.2.2.2 hZ hokB h52 h51
        · have hm1 : mo = 1 := hmo.resolve_left c1
          have hU : my_U q n m V C0 D9 p (fun s => B 52 (10 * q + s)) B := by
            rcases hinv with q9 | q9
            · exact q9.2
            · have := q9.1; omega
          -- the next plan
          have next : ∀ C, ms_Z A C → hb_ok C → C 52 = B 52 → (∀ s, C 51 s = 0 ∨ C 51 s = 1) → my_f q p A C → my_T q n m V C0 D9 p (fun s => B 52 (10 * q + s)) C → wp_judge_201 (lp_U z 3 0) C p (q : Int) P Q := by
            intro C hZC hokC h52C h51C hfC hT
            have f26 : C 26 = A 26 := hZC 26 (by decide) (by decide) (by decide) (by decide) (by decide) (by decide) (by decide)
            have f28 : C 28 = A 28 := hZC 28 (by decide) (by decide) (by decide) (by decide) (by decide) (by decide) (by decide)
            refine wq_nextPlan hq2 hgz hg (by rw [f26]; exact en) hn10 (fun s hs => by rw [f28]; have := hS.2 s (by omega); omega) (by rw [h52C]; exact h52) (fun E hKE hE => ?_)
            rw [f28, h52C] at hE ⊢
            have r01 := lq_r_01 (fun s => A 28 (20 * g + s)) (10 * q) n (B 52)
            have hnn := lq_n_ok (fun s => A 28 (20 * g + s)) (10 * q) n (B 52) hpl
            have hm0 := lq_m_nonneg (fun s => A 28 (20 * g + s)) (10 * q) n (lq_n (fun s => A 28 (20 * g + s)) (10 * q) n (B 52)) hnn
            have hm0' := lq_m_nonneg (fun s => A 28 (20 * g + s)) (10 * q) n (B 52) hpl
            have hZE : ms_Z A E := ms_Z_trans hZC (ms_Z_K (Or.inr (Or.inl rfl)) hKE)
            have h52E : ∀ s, 0 ≤ E 52 s ∧ E 52 s ≤ 100 := fun s => by
              rw [hE]
              refine lq_n_range _ _ n _ 100 (by decide) (fun t t1 t2 => ?_) h52 s
              have := hS.2 (t - 10 * q) (by omega)
              have e : 10 * q + (t - 10 * q) = t := by omega
              rw [e] at this
              omega
            obtain ⟨T1, kk, T2, T3, T4⟩ := hT
            obtain ⟨Nk, K1, K2, K3, K4⟩ := id T2
            have e51 : E 51 = C 51 := hKE 51 (by decide)
            have e53 : E 53 = C 53 := hKE 53 (by decide)
            have fE : my_f q p A E := ⟨⟨by rw [e51]; exact hfC.1.1, by rw [e53]; exact hfC.1.2⟩, mn_S_trans hfC.2 (mn_S_K (hKE 0 (by decide)) (hKE 1 (by decide)) (hKE 2 (by decide)))⟩
            have xr : ∀ x : Nat → Int, rb_pl n m x → ∃ y : Nat → Int, (∀ s, y (10 * q + s) = x s) ∧ ∀ s, s < n → 0 ≤ y (10 * q + s) ∧ y (10 * q + s) < A 28 (20 * g + (10 * q + s)) := fun x hx => ⟨fun i => x (i - 10 * q), fun s => by show x (10 * q + s - 10 * q) = x s; rw [show 10 * q + s - 10 * q = s by omega], fun s hs => by
              show 0 ≤ x (10 * q + s - 10 * q) ∧ x (10 * q + s - 10 * q) < A 28 (20 * g + (10 * q + s))
              rw [show 10 * q + s - 10 * q = s by omega]
              have q9 := hx s hs
              rw [hm] at q9
              exact q9⟩
            have gap : ∀ x : Nat → Int, rb_pl n m x → (lq_r (fun s => A 28 (20 * g + s)) (10 * q) n (B 52) = 0 ∨ rb_lt n x (fun s => lq_n (fun s => A 28 (20 * g + s)) (10 * q) n (B 52) (10 * q + s))) → (∀ s, s < n → x s = B 52 (10 * q + s)) ∨ rb_lt n x (fun s => B 52 (10 * q + s)) := by
              intro x hx hc
              obtain ⟨y, y1, y2⟩ := xr x hx
              have q9 := lq_gap (fun s => A 28 (20 * g + s)) (10 * q) n (B 52) y y2 (by
                rcases hc with hc | hc
                · exact Or.inl hc
                · exact Or.inr (rb_lt_congr (fun s _ => (y1 s).symm) (fun s _ => rfl) hc))
              rcases q9 with q9 | q9
              · exact Or.inl (fun s hs => by rw [← y1 s]; exact q9 s hs)
              · exact Or.inr (rb_lt_congr (fun s _ => y1 s) (fun s _ => rfl) q9)
            rcases r01 with r0 | r1
            · refine ih 0 ?_ E _ (by rw [r0, if_pos rfl]) (Or.inl r0) hZE (hb_ok_K (by decide) hKE hokC) h52E (by rw [hKE 51 (by decide)]; exact h51C) (by rw [hE]; exact hnn) fE (Or.inr ⟨r0, by rw [e51]; exact T1, kk, by rw [e53]; exact K4, ⟨K3, fun x hx => T4 x hx (gap x hx (Or.inl r0))⟩, Nk, mf_H_K (hKE 0 (by decide)) (hKE 1 (by decide)) (hKE 2 (by decide)) K1, K2⟩)
              rw [hm1, if_neg (by decide)] at hk'
              omega
            · have hst := lq_m_step (fun s => A 28 (20 * g + s)) (10 * q) n (B 52) hpl r1
              refine ih ((lq_m (fun s => A 28 (20 * g + s)) (10 * q) n (E 52)).toNat + 1) ?_ E _ (by rw [r1, if_neg (by decide)]) (Or.inr r1) hZE (hb_ok_K (by decide) hKE hokC) h52E (by rw [hKE 51 (by decide)]; exact h51C) (by rw [hE]; exact hnn) fE (Or.inl ⟨r1, Or.inr ⟨by rw [e51]; exact T1, kk, my_k_keep (fun N h => mf_H_K (hKE 0 (by decide)) (hKE 1 (by decide)) (hKE 2 (by decide)) h) e53 T2, ?_, fun x hx lt => T4 x hx (gap x hx (Or.inr (by rw [hE] at lt; exact lt)))⟩⟩)
              rotate_left
              · have up := lq_up (fun s => A 28 (20 * g + s)) (10 * q) n (B 52) r1
                rw [hE]
                rcases T3 with T3 | T3
                · exact rb_lt_congr (fun s hs => (T3 s hs).symm) (fun s _ => rfl) up
                · exact rb_lt_trans T3 up
              rw [hE]
              rw [hm1, if_neg (by decide)] at hk'
              omega
          have keep : ∀ C Nc, ms_Z A C → hb_ok C → C 52 = B 52 → (∀ s, C 51 s = 0 ∨ C 51 s = 1) → my_f q p A C → mf_H C 4239 Nc D9 → Nc * C0 = D9 * V (fun s => B 52 (10 * q + s)) → (∀ x, rb_pl n m x → rb_lt n x (fun s => B 52 (10 * q + s)) → cg_d (q : Int) * V x < cg_d (q : Int) * V (fun s => B 52 (10 * q + s))) → wp_judge_156 (lp_U z 3 0) C p (q : Int) P Q := by
            intro C Nc hZC hokC h52C h51C hfC hFc hNc hbest
            refine wy_keep (by omega) (by omega) hokC h51C hFc (fun D hD hokD h51D FD ND D51 x5 hx5 => ?_)
            have fD : my_f q p A D := ⟨⟨fun i hi => by rw [D51 i, if_neg hi]; exact hfC.1.1 i hi, by rw [hD 53 (by decide) (by decide)]; exact hfC.1.2⟩, mn_S_trans hfC.2 (fun u a b c d => ND u (by omega) b c d)⟩
            have oneD : D 51 (1 + p).toNat = 1 := by rw [D51, if_pos rfl]
            have hZD : ms_Z A D := ms_Z_trans hZC (fun k k2 k51 _ _ _ _ _ => hD k k2 k51)
            have h52D : D 52 = B 52 := by rw [hD 52 (by decide) (by decide)]; exact h52C
            intro P2 hP2
            have key2 : ∀ (k2 j : Nat) (E : Nat → Nat → Int), 10 - j = k2 → j ≤ 10 → ms_Z A E → hb_ok E → E 52 = B 52 → (∀ s, E 51 s = 0 ∨ E 51 s = 1) → my_f q p A E → E 51 = D 51 → mf_H E (4231 + 2 * (1 + p)) Nc D9 → (∀ i, i < j → E 53 (10 * q + i) = B 52 (10 * q + i)) → P2 E ((10 * q + j : Nat) : Int) := by
              intro k2
              induction k2 with
              | zero =>
                intro j E hk2 hj hZE hokE h52E h51E fE e51 FE h53E
                refine hP2 E _ ⟨⟨by omega, by omega⟩, ⟨by omega, by omega⟩, fun _ => next E hZE hokE h52E h51E fE ⟨by rw [e51]; exact oneD, fun s => B 52 (10 * q + s), ⟨Nc, FE, hNc, plB, fun s hs => h53E s (by omega)⟩, Or.inl (fun _ _ => rfl), fun x hx hc => ?_⟩, fun d => by omega⟩
                rcases hc with hc | hc
                · have ev : V x = V (fun s => B 52 (10 * q + s)) := HV x _ hc
                  rw [ev]
                  exact ⟨Int.le_refl _, fun lt => absurd lt (rb_lt_irr hc)⟩
                · have lt := hbest x hx hc
                  exact ⟨Int.le_of_lt lt, fun _ => lt⟩
              | succ k2 ih2 =>
                intro j E hk2 hj hZE hokE h52E h51E fE e51 FE h53E
                refine hP2 E _ ⟨⟨by omega, by omega⟩, ⟨by omega, by omega⟩, fun d => by omega, fun d => ⟨⟨by omega, by omega⟩, ⟨by omega, by omega⟩, fun F hF x6 hx6 => ?_⟩⟩
                have hKF : lq_K 53 E F := by rw [hF]; exact lq_K_s _ _ _ _
                have e6 : x6 = ((10 * q + (j + 1) : Nat) : Int) := by omega
                rw [e6]
                have f53 : ∀ i, F 53 i = if i = 10 * q + j then B 52 (10 * q + j) else E 53 i := fun i => by
                  rw [hF, lq_s_fun]
                  unfold hz_u
                  rw [show (((10 * q + j : Nat) : Int)).toNat = 10 * q + j by omega, h52E]
                refine ih2 (j + 1) F (by omega) (by omega) (ms_Z_trans hZE (ms_Z_K (Or.inr (Or.inr (Or.inl rfl))) hKF)) (hb_ok_K (by decide) hKF hokE) (by rw [hKF 52 (by decide)]; exact h52E) (by rw [hKF 51 (by decide)]; exact h51E) ⟨⟨by rw [hKF 51 (by decide)]; exact fE.1.1, fun i hi => by rw [f53, if_neg (by omega)]; exact fE.1.2 i hi⟩, mn_S_trans fE.2 (mn_S_K (hKF 0 (by decide)) (hKF 1 (by decide)) (hKF 2 (by decide)))⟩ (by rw [hKF 51 (by decide)]; exact e51) (mf_H_K (hKF 0 (by decide)) (hKF 1 (by decide)) (hKF 2 (by decide)) FE) (fun i hi => ?_)
                rw [f53]
                by_cases ei : i = j
                · rw [if_pos (by omega), ei]
                · rw [if_neg (by omega)]
                  exact h53E i (by omega)
            have h2 := key2 _ 0 D rfl (by omega) hZD hokD h52D h51D fD rfl FD (fun i hi => by omega)
            have e5 : x5 = ((10 * q + 0 : Nat) : Int) := by omega
            rw [e5]
            exact h2
          have dec : ∀ C t0 Nc, ms_Z A C → hb_ok C → C 52 = B 52 → (∀ s, C 51 s = 0 ∨ C 51 s = 1) → hz_rI t0 → my_f q p A C → mf_H C 4239 Nc D9 → Nc * C0 = D9 * V (fun s => B 52 (10 * q + s)) → ((C 51 (1 + p).toNat = 0 ∧ ∀ x, rb_pl n m x → ¬ rb_lt n x (fun s => B 52 (10 * q + s))) ∨ (C 51 (1 + p).toNat = 1 ∧ ∃ (kk : Nat → Int) (N : Int), (mf_H C (4231 + 2 * (1 + p)) N D9 ∧ N * C0 = D9 * V kk ∧ rb_pl n m kk ∧ ∀ s, s < n → C 53 (10 * q + s) = kk s) ∧ rb_lt n kk (fun s => B 52 (10 * q + s)) ∧ (∀ x, rb_pl n m x → rb_lt n x (fun s => B 52 (10 * q + s)) → cg_d (q : Int) * V x ≤ cg_d (q : Int) * V kk ∧ (rb_lt n x kk → cg_d (q : Int) * V x < cg_d (q : Int) * V kk)) ∧ t0 = hb_c Nc N)) → wp_judge_125 (lp_U z 3 0) C p (q : Int) t0 P Q := by
            intro C t0 Nc hZC hokC h52C h51C ht0 hfC hFc hNc hcase
            have none : C 51 (1 + p).toNat = 0 → wp_judge_156 (lp_U z 3 0) C p (q : Int) P Q := fun c0 => by
              rcases hcase with ⟨-, h⟩ | ⟨h, -⟩
              · exact keep C Nc hZC hokC h52C h51C hfC hFc hNc (fun x hx lt => absurd lt (h x hx))
              · omega
            have some : ¬ C 51 (1 + p).toNat = 0 → ∃ (kk : Nat → Int) (N : Int), (mf_H C (4231 + 2 * (1 + p)) N D9 ∧ N * C0 = D9 * V kk ∧ rb_pl n m kk ∧ ∀ s, s < n → C 53 (10 * q + s) = kk s) ∧ rb_lt n kk (fun s => B 52 (10 * q + s)) ∧ (∀ x, rb_pl n m x → rb_lt n x (fun s => B 52 (10 * q + s)) → cg_d (q : Int) * V x ≤ cg_d (q : Int) * V kk ∧ (rb_lt n x kk → cg_d (q : Int) * V x < cg_d (q : Int) * V kk)) ∧ t0 = hb_c Nc N := fun c0 => by
              rcases hcase with ⟨h, -⟩ | ⟨-, h⟩
              · exact absurd h c0
              · exact h
            have sgn : ∀ (x y : Int), (hb_c x y ≤ 0 → x ≤ y) ∧ (¬ hb_c x y ≤ 0 → y < x) ∧ (0 ≤ hb_c x y → y ≤ x) ∧ (¬ 0 ≤ hb_c x y → x < y) := fun x y => by
              unfold hb_c
              split
              · exact ⟨fun _ => by omega, fun h => by omega, fun h => by omega, fun _ => by omega⟩
              · split
                · exact ⟨fun _ => by omega, fun h => by omega, fun _ => by omega, fun h => by omega⟩
                · exact ⟨fun h => by omega, fun _ => by omega, fun _ => by omega, fun h => by omega⟩
            have stay : ¬ C 51 (1 + p).toNat = 0 → ((p = 2 ∧ t0 ≤ 0) ∨ (p = 1 ∧ 0 ≤ t0)) → wp_judge_201 (lp_U z 3 0) C p (q : Int) P Q := fun c0 why => by
              obtain ⟨kk, N, ⟨k1, k2, k3, k4⟩, k5, k6, k7⟩ := some c0
              have s9 := sgn Nc N
              rw [← k7] at s9
              have le : cg_d (q : Int) * V (fun s => B 52 (10 * q + s)) ≤ cg_d (q : Int) * V kk := by
                rcases hcg with ⟨e1, e2⟩ | ⟨e1, e2⟩
                · have q9 := (mj_cmp HC D9p k2 hNc).1 (s9.2.2.1 (by omega))
                  rw [e2]
                  omega
                · have q9 := (mj_cmp HC D9p hNc k2).1 (s9.1 (by omega))
                  rw [e2]
                  omega
              refine next C hZC hokC h52C h51C hfC ⟨by have := h51C (1 + p).toNat; omega, kk, ⟨N, k1, k2, k3, k4⟩, Or.inr k5, fun x hx hc => ?_⟩
              rcases hc with hc | hc
              · have ev : V x = V (fun s => B 52 (10 * q + s)) := HV x _ hc
                rw [ev]
                exact ⟨le, fun lt => absurd (rb_lt_trans k5 (rb_lt_congr hc (fun _ _ => rfl) lt)) (rb_lt_irr (fun _ _ => rfl))⟩
              · exact k6 x hx hc
            have take : ¬ C 51 (1 + p).toNat = 0 → ((p = 2 ∧ ¬ t0 ≤ 0) ∨ (p = 1 ∧ ¬ 0 ≤ t0)) → wp_judge_156 (lp_U z 3 0) C p (q : Int) P Q := fun c0 why => by
              obtain ⟨kk, N, ⟨k1, k2, k3, k4⟩, k5, k6, k7⟩ := some c0
              have s9 := sgn Nc N
              rw [← k7] at s9
              have lt9 : cg_d (q : Int) * V kk < cg_d (q : Int) * V (fun s => B 52 (10 * q + s)) := by
                rcases hcg with ⟨e1, e2⟩ | ⟨e1, e2⟩
                · have q9 := (mj_cmp HC D9p hNc k2).2 (s9.2.2.2 (by omega))
                  rw [e2]
                  omega
                · have q9 := (mj_cmp HC D9p k2 hNc).2 (s9.2.1 (by omega))
                  rw [e2]
                  omega
              exact keep C Nc hZC hokC h52C h51C hfC hFc hNc (fun x hx hc => Int.lt_of_le_of_lt (k6 x hx hc).1 lt9)
            refine ⟨⟨by omega, by omega⟩, by rcases h51C (1 + p).toNat with h | h <;> rw [h] <;> exact ⟨by decide, by decide⟩, fun c0 => none c0, fun c0 => ⟨hp, fun c1 => ⟨ht0, fun c2 => stay c0 (by omega), fun c2 => take c0 (by omega)⟩, fun c1 => ⟨ht0, fun c2 => stay c0 (by omega), fun c2 => take c0 (by omega)⟩⟩⟩
          have ex : ∀ ta tb : Int, (ta = 0 ∨ ta = 1) → (tb = 0 ∨ tb = 1) → ((p = 1 ∧ ta = 1 ∧ tb = 0) ∨ (p = 2 ∧ ta = 0 ∧ tb = 1)) → wp_judge_91 (lp_U z 3 0) B p (q : Int) ta tb P Q := by
            intro ta tb hta htb hpt
            obtain ⟨I9, hI9, hS9⟩ := HI _ plB
            have zz : ∀ k, 2 < k → k < 51 → B k = A k := fun k a b => hZ k a (by omega) (by omega) (by omega) (by omega) (by omega) (by omega)
            refine wy_expectAll (q := q) (C0 := C0) (I := I9) htb hta hgz hg (mg_G_Z hZ hG.1) (mg_D_Z hZ hG.2.1) (mg_W_Z hZ hG.2.2) hokB h52 (by omega) (mj_I_keep (zz 14 (by decide) (by decide)) (zz 19 (by decide) (by decide)) (zz 20 (by decide) (by decide)) (zz 21 (by decide) (by decide)) (zz 22 (by decide) (by decide)) (zz 23 (by decide) (by decide)) (zz 25 (by decide) (by decide)) (zz 49 (by decide) (by decide)) (zz 50 (by decide) (by decide)) hI9) (fun C Nc hX hokC hFc hNc => ?_)
            rw [zz 25 (by decide) (by decide), zz 50 (by decide) (by decide), ← hD9] at hFc hNc
            rw [zz 14 (by decide) (by decide), zz 21 (by decide) (by decide), hS9] at hNc
            have fC : my_f q p A C := ⟨⟨by rw [hX.1 51 (by decide)]; exact hfr.1.1, by rw [hX.1 53 (by decide)]; exact hfr.1.2⟩, mn_S_trans hfr.2 (mn_S_X hX (fun u hu c => by omega) hokB)⟩
            have FX : ∀ N, mf_H B (4231 + 2 * (1 + p)) N D9 → mf_H C (4231 + 2 * (1 + p)) N D9 := fun N h => mf_H_X hX (by omega) (by omega) (by omega) (by omega) hokB h
            have hUC := my_U_keep FX (hX.1 51 (by decide)) (hX.1 53 (by decide)) hU
            have hZC : ms_Z A C := ms_Z_trans hZ (ms_Z_X hX)
            have h52C : C 52 = B 52 := hX.1 52 (by decide)
            have h51C : ∀ s, C 51 s = 0 ∨ C 51 s = 1 := by rw [hX.1 51 (by decide)]; exact h51
            refine ⟨⟨by omega, by omega⟩, by rcases h51C (1 + p).toNat with h | h <;> rw [h] <;> exact ⟨by decide, by decide⟩, fun c0 => dec C 0 Nc hZC hokC h52C h51C ⟨by decide, by decide⟩ fC hFc hNc (by
              rcases hUC with q9 | q9
              · exact Or.inl q9
              · have := q9.1; omega), fun c0 => ?_⟩
            obtain ⟨U1, kk, ⟨N, k1, k2, k3, k4⟩, U3, U4⟩ : C 51 (1 + p).toNat = 1 ∧ ∃ k : Nat → Int, my_k q n m V C0 D9 p C k ∧ rb_lt n k (fun s => B 52 (10 * q + s)) ∧ ∀ x, rb_pl n m x → rb_lt n x (fun s => B 52 (10 * q + s)) → cg_d (q : Int) * V x ≤ cg_d (q : Int) * V k ∧ (rb_lt n x k → cg_d (q : Int) * V x < cg_d (q : Int) * V k) := by
              rcases hUC with q9 | q9
              · exact absurd q9.1 c0
              · exact q9
            refine wz_compareFractions (by omega) (by omega) (by omega) (by omega) hokC hFc.1 k1.1 (fun r D hr hXD hokD er => dec D r Nc (ms_Z_trans hZC (ms_Z_X hXD)) hokD (by rw [hXD.1 52 (by decide)]; exact h52C) (by rw [hXD.1 51 (by decide)]; exact h51C) hr ⟨⟨by rw [hXD.1 51 (by decide)]; exact fC.1.1, by rw [hXD.1 53 (by decide)]; exact fC.1.2⟩, mn_S_trans fC.2 (mn_S_X hXD (fun u hu c => by omega) hokC)⟩ (mf_H_X hXD (by decide) (by decide) (by decide) (by decide) hokC hFc) hNc (Or.inr ⟨by rw [hXD.1 51 (by decide)]; exact U1, kk, N, ⟨mf_H_X hXD (by omega) (by omega) (by omega) (by omega) hokC k1, k2, k3, by rw [hXD.1 53 (by decide)]; exact k4⟩, U3, U4, er⟩))
          exact ⟨hp, fun c1 => ⟨hp, fun c2 => by omega, fun c2 => ex 1 0 (Or.inr rfl) (Or.inl rfl) (by omega)⟩, fun c1 => ⟨hp, fun c2 => ex 0 1 (Or.inl rfl) (Or.inr rfl) (by omega), fun c2 => by omega⟩⟩
    have A51 : ∀ i, A26 51 i = if i = (1 + p).toNat then 0 else A 51 i := fun i => by
      rw [hK26 51 (by decide), hA24, lq_s_fun]
      rfl
    refine key _ A26 1 rfl (Or.inr rfl) hZ26 hok26 (fun s => ?_) (by rw [hK26 51 (by decide)]; exact h5124) (fun s s1 s2 => ?_) ⟨⟨fun i hi => by rw [A51, if_neg hi], fun i hi => by rw [hK26 53 (by decide), hK24 53 (by decide)]⟩, mn_S_trans (mn_S_K (hK24 0 (by decide)) (hK24 1 (by decide)) (hK24 2 (by decide))) (mn_S_K (hK26 0 (by decide)) (hK26 1 (by decide)) (hK26 2 (by decide)))⟩ (Or.inl ⟨rfl, Or.inl ⟨by rw [A51, if_pos rfl], fun x hx lt => ?_⟩⟩)
    rotate_right
    · obtain ⟨s, s1, s2, -⟩ := lt
      have q9 := (hx s s1).1
      have s2 : x s < A26 52 (10 * q + s) := s2
      rw [h26 (10 * q + s), if_pos (by omega)] at s2
      omega
    · rw [h26 s, hK24 52 (by decide)]
      split
      · omega
      · exact hI1.2.2.2.2.2.2.2.1 s
    · rw [h26 s, if_pos (by omega)]
      have := hS.2 (s - 10 * q) (by omega)
      have e : 10 * q + (s - 10 * q) = s := by omega
      rw [e] at this
      omega
  refine ⟨hp, fun c => yes (Or.inl c), fun c => ⟨hp, fun d => yes (Or.inr d), fun d => no 1 (by decide) (by decide) (Or.inl ⟨rfl, by omega⟩)⟩⟩
