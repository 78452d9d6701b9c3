/-- neither the text nor a game is changed -/
noncomputable def md_Z (A B : Nat → Nat → Int) : Prop := ∀ k, 2 < k → k < 49 → B k = A k
theorem md_refl (A : Nat → Nat → Int) : md_Z A A := fun _ _ _ => rfl
theorem md_of {A B : Nat → Nat → Int} (h : ms_Z A B) : md_Z A B := fun k a b => h k a (by omega) (by omega) (by omega) (by omega) (by omega) (by omega)
theorem wv_compare {z : Nat → Int} {A : Nat → Nat → Int} {v w : Int} {Q : Int → (Nat → Int) → (Nat → Nat → Int) → Prop} (hI : mi_I z A) (hv : hz_rI v) (hw : hz_rI w) (hQ : ∀ r t B, mi_I (lp_U z 3 t) B → md_Z A B → Q r (lp_U z 3 t) B) : wp_compare z A v w Q := by
  intro z1 hz1
  subst hz1
  have hI1 := mi_3 hI 0
  have h51 := hI1.2.2.2.2.2.2.2.2.1
  refine wq_has hv h51 (fun r hr => ⟨by rcases hr with h | h <;> exact ⟨by omega, by omega⟩, fun _ => hQ _ 0 A hI1 (md_refl A), fun c => ?_⟩)
  obtain ⟨h1, h2, h3⟩ := hr.resolve_left c
  refine wq_has hw h51 (fun r2 hr2 => ⟨by rcases hr2 with h | h <;> exact ⟨by omega, by omega⟩, fun _ => hQ _ 0 A hI1 (md_refl A), fun c2 => ?_⟩)
  obtain ⟨k1, k2, k3⟩ := hr2.resolve_left c2
  refine wq_compareFractions (by omega) (by omega) (by omega) (by omega) hI1.2.2.2.2.2.2.1 (fun r3 B _ hX hokB => hQ _ 0 B ?_ (md_of (ms_Z_X hX)))
  exact mi_keep hI1 (fun _ _ _ => rfl) hI1.2.2.2.2.2.2.2.2.2 (ms_Z_X hX) hokB (by rw [hX.1 52 (by decide)]; exact hI1.2.2.2.2.2.2.2.1) (by rw [hX.1 51 (by decide)]; exact h51)
theorem wv_printC {z : Nat → Int} {A : Nat → Nat → Int} {w : Int} {Q : Int → (Nat → Int) → (Nat → Nat → Int) → Prop} (hI : mi_I z A) (hw : hz_rI w) (hQ : ∀ r z' B, (∀ k, k ≠ 3 → k ≠ 57 → z' k = z k) → mi_I z' B → md_Z A B → Q r z' B) : wp_print z A w Q := by
  refine wq_print hw hI.2.2.2.2.2.2.1 hI.2.2.2.2.2.2.2.2.1 (fun r z' B hz h57 hB hokB => hQ r z' B hz ?_ (fun k k2 k49 => hB k k2 (by omega)))
  refine mi_keep hI hz ?_ (fun k k2 _ _ _ _ _ k56 => hB k k2 k56) hokB (by rw [hB 52 (by decide) (by decide)]; exact hI.2.2.2.2.2.2.2.1) (by rw [hB 51 (by decide) (by decide)]; exact hI.2.2.2.2.2.2.2.2.1)
  rcases h57 with h | h
  · rw [h]
    exact hI.2.2.2.2.2.2.2.2.2
  · exact h
theorem wv_solveC {z : Nat → Int} {A : Nat → Nat → Int} {Q : (Nat → Int) → (Nat → Nat → Int) → Prop} (hI : mi_I z A) (hQ : ∀ t B, mi_I (lp_U z 3 t) B → md_Z A B → Q (lp_U z 3 t) B) : wp_solve z A Q := by
  obtain ⟨g, hg, hgz, hgt⟩ := mi_g hI
  refine wq_solve hI.2.2.1 (fun hk => ⟨g, hg, hgz, by have := (hI.2.2.2.2.2.1 hk).1; rw [hgt] at this; exact this⟩) hI.2.2.2.2.2.2.1 hI.2.2.2.2.2.2.2.1 hI.2.2.2.2.2.2.2.2.1 (fun t B _ hZ hokB h52 h51 _ _ => hQ t B ?_ (md_of hZ))
  exact mi_keep (mi_3 hI t) (fun _ _ _ => rfl) (mi_3 hI t).2.2.2.2.2.2.2.2.2 hZ hokB h52 h51
theorem wv_expect {z : Nat → Int} {A : Nat → Nat → Int} {Q : (Nat → Int) → (Nat → Nat → Int) → Prop} (hI : mi_I z A) (hQ : ∀ t B, mi_I (lp_U z 3 t) B → md_Z A B → Q (lp_U z 3 t) B) : wp_expect z A Q := by
  have no : wp_expect_28 z A Q := by
    intro z1 hz1
    subst hz1
    rw [lp_U_same]
    exact ⟨⟨by decide, by decide⟩, fun _ => hQ 1 A (mi_3 hI 1) (md_refl A), fun c => by omega⟩
  refine ⟨mi_k hI, fun _ => no, fun c => ?_⟩
  have hk : z 34 = 1 := hI.2.2.1.resolve_left c
  refine wq_isGood hI hk (Or.inl rfl) (fun r hr => ⟨by rcases hr with h | h <;> rw [h] <;> exact ⟨by decide, by decide⟩, fun _ => no, fun _ => wq_isGood hI hk (Or.inr rfl) (fun r2 hr2 => ⟨by rcases hr2 with h | h <;> rw [h] <;> exact ⟨by decide, by decide⟩, fun _ => no, fun _ z1 hz1 => ?_⟩)⟩)
  subst hz1
  have hI1 := mi_3 hI 0
  obtain ⟨g, hg, hgz, hgt⟩ := mi_g hI1
  have hG := hI1.2.2.2.2.2.1 hk
  rw [hgt] at hG
  rw [lp_U_same]
  refine ⟨⟨by decide, by decide⟩, fun d => by omega, fun _ => wq_expectAll (Or.inl rfl) (Or.inl rfl) hgz hg hG.1 hG.2.1 hG.2.2 hI1.2.2.2.2.2.2.1 hI1.2.2.2.2.2.2.2.1 (fun B hX hokB => ?_)⟩
  refine wq_keep (by decide) (by decide) hokB (by rw [hX.1 51 (by decide)]; exact hI1.2.2.2.2.2.2.2.2.1) (fun C hC hokC h51 => hQ 0 C ?_ (md_of (ms_Z_trans (ms_Z_X hX) (fun k k2 k51 _ _ _ _ _ => hC k k2 k51))))
  exact mi_keep hI1 (fun _ _ _ => rfl) hI1.2.2.2.2.2.2.2.2.2 (ms_Z_trans (ms_Z_X hX) (fun k k2 k51 _ _ _ _ _ => hC k k2 k51)) hokC (by rw [hC 52 (by decide) (by decide), hX.1 52 (by decide)]; exact hI1.2.2.2.2.2.2.2.1) h51
theorem wv_judge {z : Nat → Int} {A : Nat → Nat → Int} {p : Int} {Q : (Nat → Int) → (Nat → Nat → Int) → Prop} (hI : mi_I z A) (hp : hz_rI p) (hQ : ∀ t B, mi_I (lp_U z 3 t) B → md_Z A B → Q (lp_U z 3 t) B) : wp_judge z A p Q := by
  have no : ∀ t : Int, 1 ≤ t → t ≤ 2 → wp_judge_35 z A p t Q := by
    intro t t1 t2 z1 hz1
    subst hz1
    rw [lp_U_same]
    exact ⟨⟨by omega, by omega⟩, fun c => by omega, fun _ => hQ t A (mi_3 hI t) (md_refl A)⟩
  have yes : (p = 1 ∨ p = 2) → wp_judge_15 z A p Q := by
    intro hp2
    refine ⟨mi_k hI, fun _ => no 2 (by decide) (by decide), fun c => ?_⟩
    have hk : z 34 = 1 := hI.2.2.1.resolve_left c
    refine wq_isGood hI hk hp2 (fun r hr => ⟨by rcases hr with h | h <;> rw [h] <;> exact ⟨by decide, by decide⟩, fun _ z1 hz1 => ?_, fun _ => no 2 (by decide) (by decide)⟩)
    subst hz1
    have hI1 := mi_3 hI 0
    obtain ⟨g, hg, hgz, hgt⟩ := mi_g hI1
    have hG := hI1.2.2.2.2.2.1 hk
    rw [hgt] at hG
    rw [lp_U_same]
    refine ⟨⟨by decide, by decide⟩, fun _ x2 hx2 => ⟨⟨by omega, by omega⟩, fun A24 hA24 => ?_⟩, fun d => by omega⟩
    obtain ⟨q, hq⟩ : ∃ q : Nat, x2 = (q : Int) := ⟨x2.toNat, by omega⟩
    have hq2 : q < 2 := by omega
    subst hq
    have hS : mg_S A g q := by
      rcases (show q = 0 ∨ q = 1 by omega) with e | e <;> subst e
      · exact hG.1.2.1
      · exact hG.1.2.2.1
    obtain ⟨n, hn⟩ : ∃ n : Nat, (A 26 (2 * g + q)).toNat = n := ⟨_, rfl⟩
    have en : A 26 (2 * g + q) = (n : Int) := by have := hS.1; omega
    have hn10 : n ≤ 10 := by have := hS.1; omega
    have hK24 : lq_K 51 A A24 := by rw [hA24]; exact lq_K_s _ _ _ _
    have h5124 : ∀ s, A24 51 s = 0 ∨ A24 51 s = 1 := fun s => by
      rw [hA24, lq_s_fun]
      unfold hz_u
      split
      · exact Or.inl rfl
      · exact hI1.2.2.2.2.2.2.2.2.1 s
    refine wq_firstPlan hq2 (fun A26 hK26 h26 => ?_)
    have hZ26 : ms_Z A A26 := ms_Z_trans (ms_Z_K (Or.inl rfl) hK24) (ms_Z_K (Or.inr (Or.inl rfl)) hK26)
    have hok26 : hb_ok A26 := hb_ok_K (by decide) hK26 (hb_ok_K (by decide) hK24 hI1.2.2.2.2.2.2.1)
    intro P hP
    -- a plan that is one
    have key : ∀ (k : Nat) (B : Nat → Nat → Int) (mo : Int), (if mo = 0 then 0 else (lq_m (fun s => A 28 (20 * g + s)) (10 * q) n (B 52)).toNat + 1) = k → (mo = 0 ∨ mo = 1) → ms_Z A B → hb_ok B → (∀ s, 0 ≤ B 52 s ∧ B 52 s ≤ 100) → (∀ s, B 51 s = 0 ∨ B 51 s = 1) → (∀ s, 10 * q ≤ s → s < 10 * q + n → 0 ≤ B 52 s ∧ B 52 s < A 28 (20 * g + s)) → P B mo := by
      intro k
      induction k using Nat.strongRecOn with
      | ind k ih =>
        intro B mo hk' hmo hZ hokB h52 h51 hpl
        have e26 : B 26 = A 26 := hZ 26 (by decide) (by decide) (by decide) (by decide) (by decide) (by decide) (by decide)
        have e28 : B 28 = A 28 := hZ 28 (by decide) (by decide) (by decide) (by decide) (by decide) (by decide) (by decide)
        refine hP B mo ⟨by rcases hmo with h | h <;> rw [h] <;> exact ⟨by decide, by decide⟩, fun c0 => hQ 0 B ?_ (md_of hZ), fun c1 => ?_⟩
        · exact mi_keep hI1 (fun _ _ _ => rfl) hI1.2.2.2.2.2.2.2.2.2 hZ hokB h52 h51
        · have hm1 : mo = 1 := hmo.resolve_left c1
          -- the next plan
          have next : ∀ C, ms_Z A C → hb_ok C → C 52 = B 52 → (∀ s, C 51 s = 0 ∨ C 51 s = 1) → wp_judge_201 (lp_U z 3 0) C p (q : Int) P Q := by
            intro C hZC hokC h52C h51C
            have f26 : C 26 = A 26 := hZC 26 (by decide) (by decide) (by decide) (by decide) (by decide) (by decide) (by decide)
            have f28 : C 28 = A 28 := hZC 28 (by decide) (by decide) (by decide) (by decide) (by decide) (by decide) (by decide)
            refine wq_nextPlan hq2 hgz hg (by rw [f26]; exact en) hn10 (fun s hs => by rw [f28]; have := hS.2 s (by omega); omega) (by rw [h52C]; exact h52) (fun E hKE hE => ?_)
            rw [f28, h52C] at hE ⊢
            have r01 := lq_r_01 (fun s => A 28 (20 * g + s)) (10 * q) n (B 52)
            have hnn := lq_n_ok (fun s => A 28 (20 * g + s)) (10 * q) n (B 52) hpl
            have hm0 := lq_m_nonneg (fun s => A 28 (20 * g + s)) (10 * q) n (lq_n (fun s => A 28 (20 * g + s)) (10 * q) n (B 52)) hnn
            have hm0' := lq_m_nonneg (fun s => A 28 (20 * g + s)) (10 * q) n (B 52) hpl
            have hZE : ms_Z A E := ms_Z_trans hZC (ms_Z_K (Or.inr (Or.inl rfl)) hKE)
            have h52E : ∀ s, 0 ≤ E 52 s ∧ E 52 s ≤ 100 := fun s => by
              rw [hE]
              refine lq_n_range _ _ n _ 100 (by decide) (fun t t1 t2 => ?_) h52 s
              have := hS.2 (t - 10 * q) (by omega)
              have e : 10 * q + (t - 10 * q) = t := by omega
              rw [e] at this
              omega
            rcases r01 with r0 | r1
            · refine ih 0 ?_ E _ (by rw [r0, if_pos rfl]) (Or.inl r0) hZE (hb_ok_K (by decide) hKE hokC) h52E (by rw [hKE 51 (by decide)]; exact h51C) (by rw [hE]; exact hnn)
              rw [hm1, if_neg (by decide)] at hk'
              omega
            · have hst := lq_m_step (fun s => A 28 (20 * g + s)) (10 * q) n (B 52) hpl r1
              refine ih ((lq_m (fun s => A 28 (20 * g + s)) (10 * q) n (E 52)).toNat + 1) ?_ E _ (by rw [r1, if_neg (by decide)]) (Or.inr r1) hZE (hb_ok_K (by decide) hKE hokC) h52E (by rw [hKE 51 (by decide)]; exact h51C) (by rw [hE]; exact hnn)
              rw [hE]
              rw [hm1, if_neg (by decide)] at hk'
              omega
          have keep : ∀ C, ms_Z A C → hb_ok C → C 52 = B 52 → (∀ s, C 51 s = 0 ∨ C 51 s = 1) → wp_judge_156 (lp_U z 3 0) C p (q : Int) P Q := by
            intro C hZC hokC h52C h51C
            refine wq_keep (by omega) (by omega) hokC h51C (fun D hD hokD h51D x5 hx5 => ?_)
            have hZD : ms_Z A D := ms_Z_trans hZC (fun k k2 k51 _ _ _ _ _ => hD k k2 k51)
            have h52D : D 52 = B 52 := by rw [hD 52 (by decide) (by decide)]; exact h52C
            intro P2 hP2
            have key2 : ∀ (k2 j : Nat) (E : Nat → Nat → Int), 10 - j = k2 → j ≤ 10 → ms_Z A E → hb_ok E → E 52 = B 52 → (∀ s, E 51 s = 0 ∨ E 51 s = 1) → P2 E ((10 * q + j : Nat) : Int) := by
              intro k2
              induction k2 with
              | zero =>
                intro j E hk2 hj hZE hokE h52E h51E
                exact hP2 E _ ⟨⟨by omega, by omega⟩, ⟨by omega, by omega⟩, fun _ => next E hZE hokE h52E h51E, fun d => by omega⟩
              | succ k2 ih2 =>
                intro j E hk2 hj hZE hokE h52E h51E
                refine hP2 E _ ⟨⟨by omega, by omega⟩, ⟨by omega, by omega⟩, fun d => by omega, fun d => ⟨⟨by omega, by omega⟩, ⟨by omega, by omega⟩, fun F hF x6 hx6 => ?_⟩⟩
                have hKF : lq_K 53 E F := by rw [hF]; exact lq_K_s _ _ _ _
                have e6 : x6 = ((10 * q + (j + 1) : Nat) : Int) := by omega
                rw [e6]
                exact ih2 (j + 1) F (by omega) (by omega) (ms_Z_trans hZE (ms_Z_K (Or.inr (Or.inr (Or.inl rfl))) hKF)) (hb_ok_K (by decide) hKF hokE) (by rw [hKF 52 (by decide)]; exact h52E) (by rw [hKF 51 (by decide)]; exact h51E)
            have h2 := key2 _ 0 D rfl (by omega) hZD hokD h52D h51D
            have e5 : x5 = ((10 * q + 0 : Nat) : Int) := by omega
            rw [e5]
            exact h2
          have dec : ∀ C t0, ms_Z A C → hb_ok C → C 52 = B 52 → (∀ s, C 51 s = 0 ∨ C 51 s = 1) → hz_rI t0 → wp_judge_125 (lp_U z 3 0) C p (q : Int) t0 P Q := by
            intro C t0 hZC hokC h52C h51C ht0
            refine ⟨⟨by omega, by omega⟩, by rcases h51C (1 + p).toNat with h | h <;> rw [h] <;> exact ⟨by decide, by decide⟩, fun _ => keep C hZC hokC h52C h51C, fun _ => ⟨hp, fun _ => ⟨ht0, fun _ => next C hZC hokC h52C h51C, fun _ => keep C hZC hokC h52C h51C⟩, fun _ => ⟨ht0, fun _ => next C hZC hokC h52C h51C, fun _ => keep C hZC hokC h52C h51C⟩⟩⟩
          have ex : ∀ ta tb : Int, (ta = 0 ∨ ta = 1) → (tb = 0 ∨ tb = 1) → wp_judge_91 (lp_U z 3 0) B p (q : Int) ta tb P Q := by
            intro ta tb hta htb
            refine wq_expectAll htb hta hgz hg (mg_G_Z hZ hG.1) (mg_D_Z hZ hG.2.1) (mg_W_Z hZ hG.2.2) hokB h52 (fun C hX hokC => ?_)
            have hZC : ms_Z A C := ms_Z_trans hZ (ms_Z_X hX)
            have h52C : C 52 = B 52 := hX.1 52 (by decide)
            have h51C : ∀ s, C 51 s = 0 ∨ C 51 s = 1 := by rw [hX.1 51 (by decide)]; exact h51
            refine ⟨⟨by omega, by omega⟩, by rcases h51C (1 + p).toNat with h | h <;> rw [h] <;> exact ⟨by decide, by decide⟩, fun _ => dec C 0 hZC hokC h52C h51C ⟨by decide, by decide⟩, fun _ => ?_⟩
            refine wq_compareFractions (by omega) (by omega) (by omega) (by omega) hokC (fun r D hr hXD hokD => dec D r (ms_Z_trans hZC (ms_Z_X hXD)) hokD (by rw [hXD.1 52 (by decide)]; exact h52C) (by rw [hXD.1 51 (by decide)]; exact h51C) hr)
          exact ⟨hp, fun _ => ⟨hp, fun _ => ex 0 0 (Or.inl rfl) (Or.inl rfl), fun _ => ex 1 0 (Or.inr rfl) (Or.inl rfl)⟩, fun _ => ⟨hp, fun _ => ex 0 1 (Or.inl rfl) (Or.inr rfl), fun _ => ex 1 1 (Or.inr rfl) (Or.inr rfl)⟩⟩
    refine key _ A26 1 rfl (Or.inr rfl) hZ26 hok26 (fun s => ?_) (by rw [hK26 51 (by decide)]; exact h5124) (fun s s1 s2 => ?_)
    · rw [h26 s, hK24 52 (by decide)]
      split
      · omega
      · exact hI1.2.2.2.2.2.2.2.1 s
    · rw [h26 s, if_pos (by omega)]
      have := hS.2 (s - 10 * q) (by omega)
      have e : 10 * q + (s - 10 * q) = s := by omega
      rw [e] at this
      omega
  refine ⟨hp, fun c => yes (Or.inl c), fun c => ⟨hp, fun d => yes (Or.inr d), fun d => no 1 (by decide) (by decide)⟩⟩
theorem wv_tell {z : Nat → Int} {A : Nat → Nat → Int} {p s mv a b : Int} {Q : (Nat → Int) → (Nat → Nat → Int) → Prop} (hI : mi_I z A) (hp : hz_rI p) (hs : hz_rI s) (hm : hz_rI mv) (ha : hz_rI a) (hb : hz_rI b) (hQ : ∀ t B, mi_I (lp_U z 3 t) B → md_Z A B → Q (lp_U z 3 t) B) : wp_tell z A p s mv a b Q := by
  have no : ∀ t : Int, 1 ≤ t → t ≤ 2 → wp_tell_77 z A p s mv a b t Q := by
    intro t t1 t2 z1 hz1
    subst hz1
    rw [lp_U_same]
    exact ⟨⟨by omega, by omega⟩, fun _ => hQ t A (mi_3 hI t) (md_refl A), fun c => by omega⟩
  have no1 : wp_tell_33 z A p s mv a b Q := ⟨⟨by decide, by decide⟩, fun c => absurd rfl c, fun _ => no 1 (by decide) (by decide)⟩
  refine wq_isSet hI hp hs (fun r hr => ⟨by rcases hr with h | h <;> exact ⟨by omega, by omega⟩, fun _ => no1, fun c => ⟨hm, fun _ => no1, fun d => ?_⟩⟩)
  obtain ⟨h1, h2, h3, h4, h5⟩ := hr.resolve_left c
  obtain ⟨g, hg, hgz, hgt⟩ := mi_g hI
  have hS := mi_S hI h2 h3 hgt
  rw [hgt] at h5
  have hS1 := hS.1
  have hS2 := hS.2 s.toNat (by omega)
  refine wq_movesOf hI (by omega) (by omega) ?_
  have ei : 20 * (z 32).toNat + (10 * (p - 1) + s).toNat = 20 * g + (10 * (p - 1).toNat + s.toNat) := by omega
  rw [ei]
  refine ⟨hm, ⟨by omega, by omega⟩, fun _ => no1, fun e => ⟨⟨by decide, by decide⟩, fun _ => ⟨hb, fun _ => no 2 (by decide) (by decide), fun b1 => ⟨hb, fun _ => no 2 (by decide) (by decide), fun b2 => ⟨ha, fun _ => no 2 (by decide) (by decide), fun a1 => ⟨ha, hb, fun ab z1 hz1 => ?_, fun _ => no 2 (by decide) (by decide)⟩⟩⟩⟩, fun c0 => by omega⟩⟩
  subst hz1
  rw [lp_U_same]
  refine ⟨⟨by decide, by decide⟩, fun c0 => by omega, fun _ x hx => ⟨⟨by omega, by omega⟩, fun A4 hA4 => ⟨⟨by omega, by omega⟩, fun A5 hA5 => hQ 0 A5 ?_ (fun k k2 k49 => by rw [hA5, hb_s_other (by omega), hA4, hb_s_other (by omega)])⟩⟩⟩
  have hI1 := mi_3 hI 0
  obtain ⟨a1', a2, a3, a4, a5, a6, a7, a8, a9, a10⟩ := hI1
  have e : ∀ k, k ≠ 49 → k ≠ 50 → A5 k = A k := fun k k1 k2 => by rw [hA5, hb_s_other k2, hA4, hb_s_other k1]
  have ep : ∀ g p n, lq_pp A5 g p n = lq_pp A g p n := fun g p n => by
    induction n with
    | zero => rfl
    | succ n ih => simp only [lq_pp]; rw [ih, e 28 (by decide) (by decide)]
  unfold mi_I
  rw [e 4 (by decide) (by decide), e 52 (by decide) (by decide), e 51 (by decide) (by decide)]
  refine ⟨a1', a2, a3, a4, a5, fun ck => ?_, (hb_arr (e 0 (by decide) (by decide)) (e 1 (by decide) (by decide)) (e 2 (by decide) (by decide))).1 a7, a8, a9, a10⟩
  obtain ⟨b1', b2', b3'⟩ := a6 ck
  have hW : mg_W A5 := by
    intro i hi
    have h49 : A5 49 i = if i = x.toNat then a else A 49 i := by
      rw [hA5, hb_s_other (by decide), hA4, lq_s_fun]
      rfl
    have h50 : A5 50 i = if i = x.toNat then b else A 50 i := by
      rw [hA5, lq_s_fun, hA4, hb_s_other (by decide)]
      rfl
    rw [h49, h50]
    split
    · exact ⟨⟨by omega, by omega⟩, by omega, by omega⟩
    · exact b3' i hi
  refine ⟨?_, ?_, hW⟩
  · unfold mg_G mg_E mg_S at *
    rw [e 14 (by decide) (by decide), e 19 (by decide) (by decide), e 20 (by decide) (by decide), e 21 (by decide) (by decide), e 22 (by decide) (by decide), e 23 (by decide) (by decide), e 25 (by decide) (by decide), e 26 (by decide) (by decide), e 28 (by decide) (by decide), ep, ep]
    exact b1'
  · unfold mg_D at *
    rw [e 14 (by decide) (by decide), e 20 (by decide) (by decide), e 21 (by decide) (by decide), e 22 (by decide) (by decide)]
    exact b2'
theorem wv_type {z : Nat → Int} {A : Nat → Nat → Int} {y n : Int} {Q : Int → (Nat → Int) → (Nat → Nat → Int) → Prop} (hI : mi_I z A) (hy : hz_rL y) (hn : hz_rI n) (hQ1 : mt_ok y n (z 5) → ∀ z' B, mi_I z' B → z' 5 = z 5 + n → tx_R (A 4) (B 4) (z 5) n y → (∀ q, q ≠ 3 → q ≠ 5 → z' q = z q) → lq_K 4 A B → Q (z 5 + n) z' B) (hQ0 : ¬ mt_ok y n (z 5) → ∀ z', mi_I z' A → z' 5 = z 5 → (∀ q, q ≠ 3 → q ≠ 5 → z' q = z q) → Q (-1) z' A) : wp_type z A y n Q := by
  intro z1 hz1
  have hI1 : mi_I z1 A := by rw [hz1]; exact mi_3 hI 0
  have e5 : z1 5 = z 5 := by rw [hz1]; exact lp_U_other (by decide)
  have h5 := hI1.1
  have hm : ∀ k : Nat, hz_rL (y / 2 ^ (8 * k)) := fun k => mt_div hy _
  have hc : ∀ k : Nat, 0 ≤ mt_c y k ∧ mt_c y k < 256 := fun k => ⟨Int.emod_nonneg _ (by decide), Int.emod_lt_of_pos _ (by decide)⟩
  have e8 : ∀ k : Nat, (8 * (k : Int)).toNat = 8 * k := fun k => by omega
  have bad : ¬ mt_ok y n (z 5) → wp_type_93 z1 A y n 0 Q := fun h => ⟨⟨by decide, by decide⟩, fun c => absurd rfl c, fun _ => hQ0 h z1 hI1 e5 (fun q q3 _ => by rw [hz1, lp_U_other q3])⟩
  have put : mt_ok y n (z 5) → wp_type_93 z1 A y n 1 Q := by
    intro h
    obtain ⟨g1, g2, g3, g4⟩ := h
    refine ⟨⟨by decide, by decide⟩, fun _ x hx => ?_, fun c => by omega⟩
    intro P hP
    have key : ∀ (k : Nat) (z' : Nat → Int) (B : Nat → Nat → Int), (k : Int) ≤ n → (∀ q, q ≠ 3 → q ≠ 5 → z' q = z q) → z' 5 = z 5 + (n - k) → lq_K 4 A B → (∀ i : Nat, (i : Int) < z' 5 → 32 ≤ B 4 i ∧ B 4 i ≤ 126) → ((∀ i : Nat, (i : Int) < z 5 → B 4 i = A 4 i) ∧ ∀ q : Nat, k ≤ q → (q : Int) < n → B 4 (z 5 + n - 1 - (q : Int)).toNat = ct_c y q) → P z' B ((k : Int) - 1) := by
      intro k
      induction k with
      | zero =>
        intro z' B hk hz' h5' hB ht hx9
        refine hP z' B _ ⟨⟨by omega, by omega⟩, fun _ => ?_, fun c => by omega⟩
        have e : z' 5 = z 5 + n := by omega
        rw [e]
        exact hQ1 ⟨g1, g2, g3, g4⟩ z' B (mi_text hI hz' (by omega) hB ht) e ⟨hx9.1, fun q hq => hx9.2 q (Nat.zero_le q) hq⟩ hz' hB
      | succ k ih =>
        intro z' B hk hz' h5' hB ht hx9
        have ek : ((k + 1 : Nat) : Int) - 1 = (k : Int) := by omega
        rw [ek]
        have hck := g4 k (by omega)
        refine hP z' B _ ⟨⟨by omega, by omega⟩, fun c => by omega, fun c => ⟨hy, ⟨by omega, by omega⟩, ?_⟩⟩
        rw [e8]
        have hck2 : 32 ≤ (y / 2 ^ (8 * k)) % 256 ∧ (y / 2 ^ (8 * k)) % 256 ≤ 126 := hck
        refine ⟨hm k, ⟨by omega, by omega⟩, ⟨by omega, by omega⟩, ⟨by omega, by omega⟩, fun B2 hB2 z3 hz3 x4 hx4 => ?_⟩
        have ex : x4 = (k : Int) - 1 := by omega
        have e35 : z3 5 = z' 5 + 1 := by rw [hz3, lp_U_same]
        rw [ex]
        refine ih z3 B2 (by omega) (fun q q3 q5 => by rw [hz3, lp_U_other q5]; exact hz' q q3 q5) (by omega) (lq_K_trans hB (by rw [hB2]; exact lq_K_s _ _ _ _)) (fun i hi => ?_) ⟨fun i hi => ?_, fun q q1 q2 => ?_⟩
        · rw [hB2, lq_s_fun]
          unfold hz_u
          split
          · exact hck2
          · exact ht i (by omega)
        · rw [hB2, lq_s_fun]
          unfold hz_u
          rw [if_neg (by omega)]
          exact hx9.1 i hi
        · rw [hB2, lq_s_fun]
          unfold hz_u
          by_cases eq : q = k
          · rw [eq, if_pos (by omega)]
            rfl
          · rw [if_neg (by omega)]
            exact hx9.2 q (by omega) q2
    obtain ⟨m, hm'⟩ : ∃ m : Nat, n = (m : Int) := ⟨n.toNat, by omega⟩
    have h2 := key m z1 A (by omega) (fun q q3 q5 => by rw [hz1, lp_U_other q3]) (by omega) (lq_K_refl _ A) hI1.2.1 ⟨fun _ _ => rfl, fun q q1 q2 => by omega⟩
    have ex : x = (m : Int) - 1 := by omega
    rw [ex]
    exact h2
  have loop : ∀ f : Int, (f = 0 ∧ ¬ mt_ok y n (z 5)) ∨ (f = 1 ∧ 1 ≤ n ∧ n ≤ 8 ∧ z 5 + n ≤ 4000) → wp_type_38 z1 A y n f 0 Q := by
    intro f hf
    intro P hP
    have key : ∀ (k j : Nat) (f : Int), 9 - j = k → j ≤ 8 → ((f = 0 ∧ ¬ mt_ok y n (z 5)) ∨ (f = 1 ∧ 1 ≤ n ∧ n ≤ 8 ∧ z 5 + n ≤ 4000 ∧ (j : Int) ≤ n ∧ ∀ i : Nat, i < j → 32 ≤ mt_c y i ∧ mt_c y i ≤ 126)) → P f (j : Int) := by
      intro k
      induction k with
      | zero => intro j f hk hj hf; omega
      | succ k ih =>
        intro j f hk hj hf
        rcases hf with ⟨f0, hno⟩ | ⟨f1, g1, g2, g3, g4, g5⟩
        · subst f0
          exact hP 0 _ ⟨⟨by decide, by decide⟩, fun _ => bad hno, fun c => absurd rfl c⟩
        · subst f1
          refine hP 1 _ ⟨⟨by decide, by decide⟩, fun c => by omega, fun _ => ⟨⟨by omega, by omega⟩, hn, fun c => put ⟨g1, g2, g3, fun i hi => g5 i (by omega)⟩, fun c => ⟨hy, ⟨by omega, by omega⟩, ?_⟩⟩⟩
          rw [e8]
          refine ⟨hm j, fun x hx => ?_⟩
          have hxc : x = mt_c y j := hx
          have hcj := hc j
          have no : (mt_c y j < 32 ∨ 126 < mt_c y j) → wp_type_84 z1 A y n (j : Int) P Q := by
            intro hb x5 hx5
            have e : x5 = ((j + 1 : Nat) : Int) := by omega
            by_cases c8 : j + 1 ≤ 8
            · rw [e]
              refine ih (j + 1) 0 (by omega) c8 (Or.inl ⟨rfl, fun h => ?_⟩)
              have := h.2.2.2 j (by omega)
              omega
            · exact hP 0 _ ⟨⟨by decide, by decide⟩, fun _ => bad (fun h => by have := h.2.2.2 j (by omega); omega), fun c => absurd rfl c⟩
          refine ⟨⟨by omega, by omega⟩, fun d => no (by omega), fun d => ⟨⟨by omega, by omega⟩, fun d2 => no (by omega), fun d2 x5 hx5 => ?_⟩⟩
          have e : x5 = ((j + 1 : Nat) : Int) := by omega
          have hall : ∀ i : Nat, i < j + 1 → 32 ≤ mt_c y i ∧ mt_c y i ≤ 126 := fun i hi => by
            by_cases ei : i = j
            · subst ei
              omega
            · exact g5 i (by omega)
          by_cases c8 : j + 1 ≤ 8
          · rw [e]
            exact ih (j + 1) 1 (by omega) c8 (Or.inr ⟨rfl, g1, g2, g3, by omega, hall⟩)
          · exact hP 1 _ ⟨⟨by decide, by decide⟩, fun c => by omega, fun _ => ⟨⟨by omega, by omega⟩, hn, fun c => put ⟨g1, g2, g3, fun i hi => hall i (by omega)⟩, fun c => by omega⟩⟩
    rcases hf with h | h
    · exact key _ 0 f rfl (by omega) (Or.inl h)
    · exact key _ 0 f rfl (by omega) (Or.inr ⟨h.1, h.2.1, h.2.2.1, h.2.2.2, by omega, fun i hi => by omega⟩)
  refine ⟨hn, fun c => loop 0 (Or.inl ⟨rfl, fun h => by have := h.1; omega⟩), fun c => ⟨hn, fun d => loop 0 (Or.inl ⟨rfl, fun h => by have := h.2.1; omega⟩), fun d => ⟨⟨by omega, by omega⟩, fun e => loop 0 (Or.inl ⟨rfl, fun h => by have := h.2.2.1; omega⟩), fun e => loop 1 (Or.inr ⟨rfl, by omega, by omega, by omega⟩)⟩⟩⟩
