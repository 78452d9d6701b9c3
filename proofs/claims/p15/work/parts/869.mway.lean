/-- neither the text nor a game nor a way is changed -/
noncomputable def me_0 (A B : Nat → Nat → Int) : Prop := ∀ k, 2 < k → k < 51 → B k = A k
/-- .. nor what was judged -/
noncomputable def me_Z (A B : Nat → Nat → Int) : Prop := (∀ k, 2 < k → k < 51 → B k = A k) ∧ (∀ i, i = 2 ∨ i = 3 → B 51 i = A 51 i) ∧ B 53 = A 53
theorem me_refl (A : Nat → Nat → Int) : me_Z A A := ⟨fun _ _ _ => rfl, fun _ _ => rfl, rfl⟩
theorem me_0_of {A B : Nat → Nat → Int} (h : ms_Z A B) : me_0 A B := fun k a b => h k a (by omega) (by omega) (by omega) (by omega) (by omega) (by omega)
theorem me_0_md {A B : Nat → Nat → Int} (h : me_0 A B) : md_Z A B := fun k a b => h k a (by omega)
theorem me_of {A B : Nat → Nat → Int} (h : ms_Z A B) (h51 : ∀ i, i = 2 ∨ i = 3 → B 51 i = A 51 i) (h53 : B 53 = A 53) : me_Z A B := ⟨me_0_of h, h51, h53⟩
theorem me_md {A B : Nat → Nat → Int} (h : me_Z A B) : md_Z A B := fun k a b => h.1 k a (by omega)
/-- both ways at the start -/
noncomputable def me_N (C : Nat → Nat → Int) : Prop := ∀ q, q < 80 → C 49 q = (if q % 4 = 0 then 1 else 0) ∧ C 50 q = 1
/-- way t is good, as the model sees it -/
noncomputable def me_G (z : Nat → Int) (A : Nat → Nat → Int) (t : Nat) : Prop := wy_G (fun i => A 49 (40 * t + i)) (fun i => A 50 (40 * t + i)) (fun s => A 28 (20 * (z 32).toNat + (10 * t + s))) (A 26 (2 * (z 32).toNat + t))
theorem we_compare {z : Nat → Int} {A : Nat → Nat → Int} {v w : Int} {Q : Int → (Nat → Int) → (Nat → Nat → Int) → Prop} (hI : mi_I z A) (hv : hz_rI v) (hw : hz_rI w) (hQ : ∀ r t B, mi_I (lp_U z 3 t) B → me_Z A B → Q r (lp_U z 3 t) B) : wp_compare z A v w Q := by
  intro z1 hz1
  subst hz1
  have hI1 := mi_3 hI 0
  have h51 := hI1.2.2.2.2.2.2.2.2.1
  refine wq_has hv h51 (fun r hr => ⟨by rcases hr with h | h <;> exact ⟨by omega, by omega⟩, fun _ => hQ _ 0 A hI1 (me_refl A), fun c => ?_⟩)
  obtain ⟨h1, h2, h3⟩ := hr.resolve_left c
  refine wq_has hw h51 (fun r2 hr2 => ⟨by rcases hr2 with h | h <;> exact ⟨by omega, by omega⟩, fun _ => hQ _ 0 A hI1 (me_refl A), fun c2 => ?_⟩)
  obtain ⟨k1, k2, k3⟩ := hr2.resolve_left c2
  refine wq_compareFractions (by omega) (by omega) (by omega) (by omega) hI1.2.2.2.2.2.2.1 (fun r3 B _ hX hokB => hQ _ 0 B ?_ (me_of (ms_Z_X hX) (fun i _ => by rw [hX.1 51 (by decide)]) (hX.1 53 (by decide))))
  exact mi_keep hI1 (fun _ _ _ => rfl) hI1.2.2.2.2.2.2.2.2.2 (ms_Z_X hX) hokB (by rw [hX.1 52 (by decide)]; exact hI1.2.2.2.2.2.2.2.1) (by rw [hX.1 51 (by decide)]; exact h51)
theorem we_printC {z : Nat → Int} {A : Nat → Nat → Int} {w : Int} {Q : Int → (Nat → Int) → (Nat → Nat → Int) → Prop} (hI : mi_I z A) (hw : hz_rI w) (hQ : ∀ r z' B, (∀ k, k ≠ 3 → k ≠ 57 → z' k = z k) → mi_I z' B → me_Z A B → Q r z' B) : wp_print z A w Q := by
  refine wq_print hw hI.2.2.2.2.2.2.1 hI.2.2.2.2.2.2.2.2.1 (fun r z' B hz h57 hB hokB => hQ r z' B hz ?_ ⟨fun k k2 k49 => hB k k2 (by omega), fun i _ => by rw [hB 51 (by decide) (by decide)], hB 53 (by decide) (by decide)⟩)
  refine mi_keep hI hz ?_ (fun k k2 _ _ _ _ _ k56 => hB k k2 k56) hokB (by rw [hB 52 (by decide) (by decide)]; exact hI.2.2.2.2.2.2.2.1) (by rw [hB 51 (by decide) (by decide)]; exact hI.2.2.2.2.2.2.2.2.1)
  rcases h57 with h | h
  · rw [h]
    exact hI.2.2.2.2.2.2.2.2.2
  · exact h
theorem we_solve {z : Nat → Int} {A : Nat → Nat → Int} {Q : (Nat → Int) → (Nat → Nat → Int) → Prop} (hI : mi_I z A) (hQ : ∀ t B, mi_I (lp_U z 3 t) B → me_Z A B → ((t = 0 ∧ z 34 = 1) ∨ (t = 1 ∧ z 34 = 0)) → Q (lp_U z 3 t) B) : wp_solve z A Q := by
  obtain ⟨g, hg, hgz, hgt⟩ := mi_g hI
  refine wl_solveQ hI.2.2.1 (fun hk => ⟨g, hg, hgz, by have := (hI.2.2.2.2.2.1 hk).1; rw [hgt] at this; exact this⟩) hI.2.2.2.2.2.2.1 hI.2.2.2.2.2.2.2.1 hI.2.2.2.2.2.2.2.2.1 (fun t B ht hZ hokB h52 h51 h53 h56 => hQ t B ?_ (me_of hZ h56.2 h53) ht)
  exact mi_keep (mi_3 hI t) (fun _ _ _ => rfl) (mi_3 hI t).2.2.2.2.2.2.2.2.2 hZ hokB h52 h51
theorem wj_keep {z : Nat → Int} {A : Nat → Nat → Int} {w : Int} {Q : (Nat → Nat → Int) → Prop} (w0 : 0 ≤ w) (w1 : w < 4) (hok : hb_ok A) (hth : ∀ s, A 51 s = 0 ∨ A 51 s = 1) (hQ : ∀ B, (∀ k, 2 < k → k ≠ 51 → B k = A k) → hb_ok B → (∀ s, B 51 s = 0 ∨ B 51 s = 1) → (∀ s, s ≠ w.toNat → B 51 s = A 51 s) → Q B) : wp_keep z A w Q := by
  have r1 : ∀ y : Int, y < 4243 → hb_r y = 130 := fun y h => by unfold hb_r; rw [if_neg (by omega)]
  refine wq_bigCopy (by omega) (by omega) (by decide) (by decide) (by omega) (hok _ (by decide) (by decide)) (by rw [r1 _ (by omega)]; exact hb_len130 hok (by decide) (by decide)) (fun B hXB hWB _ _ _ => ?_)
  have hokB := hb_ok_one hok hXB hWB
  refine wq_bigCopy (by omega) (by omega) (by decide) (by decide) (by omega) (hokB _ (by decide) (by decide)) (by rw [r1 _ (by omega)]; exact hb_len130 hokB (by decide) (by decide)) (fun C hXC hWC _ _ _ => ?_)
  have hokC := hb_ok_one hokB hXC hWC
  refine ⟨⟨w0, w1⟩, fun D hD => ?_⟩
  have hK : lq_K 51 C D := by rw [hD]; exact lq_K_s _ _ _ _
  refine hQ D (fun k k2 k51 => by rw [hK k k51, hXC.1 k k2, hXB.1 k k2]) (hb_ok_K (by decide) hK hokC) (fun s => ?_) (fun s hs => by
    rw [hD, lq_s_fun]
    unfold hz_u
    rw [if_neg hs, hXC.1 51 (by decide), hXB.1 51 (by decide)])
  rw [hD, lq_s_fun]
  unfold hz_u
  split
  · exact Or.inr rfl
  · rw [hXC.1 51 (by decide), hXB.1 51 (by decide)]
    exact hth s
theorem we_expect {z : Nat → Int} {A : Nat → Nat → Int} {Q : (Nat → Int) → (Nat → Nat → Int) → Prop} (hI : mi_I z A) (hQ : ∀ t B, mi_I (lp_U z 3 t) B → me_Z A B → ((t = 0 ∧ z 34 = 1 ∧ me_G z A 0 ∧ me_G z A 1) ∨ (t = 1 ∧ ¬ (z 34 = 1 ∧ me_G z A 0 ∧ me_G z A 1))) → Q (lp_U z 3 t) B) : wp_expect z A Q := by
  have no : ¬ (z 34 = 1 ∧ me_G z A 0 ∧ me_G z A 1) → wp_expect_28 z A Q := by
    intro why z1 hz1
    subst hz1
    rw [lp_U_same]
    exact ⟨⟨by decide, by decide⟩, fun _ => hQ 1 A (mi_3 hI 1) (me_refl A) (Or.inr ⟨rfl, why⟩), fun c => by omega⟩
  refine ⟨mi_k hI, fun c => no (fun q => by have := q.1; omega), fun c => ?_⟩
  have hk : z 34 = 1 := hI.2.2.1.resolve_left c
  refine wl_isGood (p := 1) hI hk (Or.inl rfl) (fun G1 => ⟨by decide, fun q => absurd q (by decide), fun _ => wl_isGood (p := 2) hI hk (Or.inr rfl) (fun G2 => ⟨by decide, fun q => absurd q (by decide), fun _ z1 hz1 => ?_⟩) (fun n2 => ⟨by decide, fun _ => no (fun q => n2 q.2.2), fun q => absurd rfl q⟩)⟩) (fun n1 => ⟨by decide, fun _ => no (fun q => n1 q.2.1), fun q => absurd rfl q⟩)
  subst hz1
  have hI1 := mi_3 hI 0
  obtain ⟨g, hg, hgz, hgt⟩ := mi_g hI1
  have hG := hI1.2.2.2.2.2.1 hk
  rw [hgt] at hG
  rw [lp_U_same]
  refine ⟨⟨by decide, by decide⟩, fun d => by omega, fun _ => wq_expectAll (Or.inl rfl) (Or.inl rfl) hgz hg hG.1 hG.2.1 hG.2.2 hI1.2.2.2.2.2.2.1 hI1.2.2.2.2.2.2.2.1 (fun B hX hokB => ?_)⟩
  refine wj_keep (by decide) (by decide) hokB (by rw [hX.1 51 (by decide)]; exact hI1.2.2.2.2.2.2.2.2.1) (fun C hC hokC h51 o51 => hQ 0 C ?_ (me_of (ms_Z_trans (ms_Z_X hX) (fun k k2 k51 _ _ _ _ _ => hC k k2 k51)) (fun i hi => by rw [o51 i (by have : (1 : Int).toNat = 1 := rfl; omega), hX.1 51 (by decide)]) (by rw [hC 53 (by decide) (by decide), hX.1 53 (by decide)])) (Or.inl ⟨rfl, hk, G1, G2⟩))
  exact mi_keep hI1 (fun _ _ _ => rfl) hI1.2.2.2.2.2.2.2.2.2 (ms_Z_trans (ms_Z_X hX) (fun k k2 k51 _ _ _ _ _ => hC k k2 k51)) hokC (by rw [hC 52 (by decide) (by decide), hX.1 52 (by decide)]; exact hI1.2.2.2.2.2.2.2.1) h51
noncomputable def la_good (g : Int) (G : Nat → Prop) (p x : Int) : Prop := (¬ (g = 1 ∧ (p = 1 ∨ p = 2)) ∧ x = -1) ∨ ((g = 1 ∧ (p = 1 ∨ p = 2)) ∧ G (p - 1).toNat ∧ x = 1) ∨ ((g = 1 ∧ (p = 1 ∨ p = 2)) ∧ ¬ G (p - 1).toNat ∧ x = 0)
theorem la_good_u {g : Int} {G G' : Nat → Prop} {p x x' : Int} (e : g = 1 → ∀ t, t < 2 → (G t ↔ G' t)) (h : la_good g G p x) (h' : la_good g G' p x') : x = x' := by
  rcases h with ⟨a, b⟩ | ⟨a, c, b⟩ | ⟨a, c, b⟩ <;> rcases h' with ⟨a', b'⟩ | ⟨a', c', b'⟩ | ⟨a', c', b'⟩
  · rw [b, b']
  · exact absurd a' a
  · exact absurd a' a
  · exact absurd a a'
  · rw [b, b']
  · exact absurd ((e a.1 _ (by omega)).mp c) c'
  · exact absurd a a'
  · exact absurd ((e a.1 _ (by omega)).mpr c') c
  · rw [b, b']
theorem wl_good {z : Nat → Int} {A : Nat → Nat → Int} {p : Int} {Q : Int → (Nat → Int) → Prop} (hI : mi_I z A) (hp : hz_rI p) (hQ : ∀ r t, mi_I (lp_U z 3 t) A → la_good (z 34) (me_G z A) p r → Q r (lp_U z 3 t)) : wp_good z A p Q := by
  intro z1 hz1
  subst hz1
  have hI1 := mi_3 hI 0
  have e4 : lp_U z 3 0 34 = z 34 := lp_U_other (by decide)
  have e2 : lp_U z 3 0 32 = z 32 := lp_U_other (by decide)
  refine wl_isPlayer hI1 hp (fun c d => ⟨by decide, fun _ => ?_, fun q => absurd q (by decide)⟩) (fun n => ⟨by decide, fun q => absurd rfl q, fun _ => hQ (-1) 0 hI1 (Or.inl ⟨by rw [e4] at n; exact n, rfl⟩)⟩)
  refine wl_isGood hI1 c d (fun G1 => ⟨by decide, fun q => absurd q (by decide), fun _ => hQ 1 0 hI1 (Or.inr (Or.inl ⟨⟨by omega, d⟩, ?_, rfl⟩))⟩) (fun n1 => ⟨by decide, fun _ => hQ 0 0 hI1 (Or.inr (Or.inr ⟨⟨by omega, d⟩, fun q => n1 ?_, rfl⟩)), fun q => absurd rfl q⟩)
  · rw [e2] at G1; exact G1
  · rw [e2]; exact q
theorem we_tell {z : Nat → Int} {A : Nat → Nat → Int} {σ : Nat → Nat → Int} {p s mv a b : Int} {Q : (Nat → Int) → (Nat → Nat → Int) → Prop} (hI : mi_I z A) (hp : hz_rI p) (hs : hz_rI s) (hm : hz_rI mv) (ha : hz_rI a) (hb : hz_rI b) (G : z 34 = 1 → mg_R (z 32).toNat A σ) (hQ : ∀ t B, mi_I (lp_U z 3 t) B → md_Z A B → la_tell (z 34) σ p s mv a b t → ((¬ t = 0 → B = A) ∧ B 51 = A 51 ∧ B 53 = A 53) → (t = 0 → ∀ i, B 49 i = (if i = (4 * (10 * (p - 1) + s) + mv).toNat then a else A 49 i) ∧ B 50 i = (if i = (4 * (10 * (p - 1) + s) + mv).toNat then b else A 50 i)) → Q (lp_U z 3 t) B) : wp_tell z A p s mv a b Q := by
  have no : ∀ t : Int, 1 ≤ t → t ≤ 2 → la_tell (z 34) σ p s mv a b t → wp_tell_77 z A p s mv a b t Q := by
    intro t t1 t2 ht z1 hz1
    subst hz1
    rw [lp_U_same]
    exact ⟨⟨by omega, by omega⟩, fun _ => hQ t A (mi_3 hI t) (md_refl A) ht ⟨fun _ => rfl, rfl, rfl⟩ (fun q => by omega), fun c => by omega⟩
  have no1 : ¬ la_mv (z 34) σ p s mv → wp_tell_33 z A p s mv a b Q := fun n => ⟨⟨by decide, by decide⟩, fun c => absurd rfl c, fun _ => no 1 (by decide) (by decide) (Or.inl ⟨n, rfl⟩)⟩
  refine wl_isSet (σ := σ) hI hp hs G (fun yes => ⟨by decide, fun q => absurd q (by decide), fun _ => ⟨hm, fun c => no1 (fun q => by have := q.2.1; omega), fun d => ?_⟩⟩) (fun n => ⟨by decide, fun _ => no1 (fun q => n q.1), fun q => absurd rfl q⟩)
  obtain ⟨h2, h3, h4, h5⟩ := id yes
  obtain ⟨g, hg, hgz, hgt⟩ := mi_g hI
  have hS := mi_S hI h2 h3 hgt
  have G1 := G h2
  have n1 := G1.2.1 (p - 1).toNat (by omega)
  have v2 := ((G1.2.2 (p - 1).toNat (by omega)).2 s.toNat (by omega)).2.1
  rw [hgt] at n1 v2
  have hS1 := hS.1
  have hS2 := hS.2 s.toNat (by omega)
  refine wq_movesOf hI (by omega) (by omega) ?_
  have ei : 20 * (z 32).toNat + (10 * (p - 1) + s).toNat = 20 * g + (10 * (p - 1).toNat + s.toNat) := by omega
  rw [ei]
  refine ⟨hm, ⟨by omega, by omega⟩, fun e => no1 (fun q => by have := q.2.2; omega), fun e => ?_⟩
  have ym : la_mv (z 34) σ p s mv := ⟨yes, by omega, by omega⟩
  have no2 : ¬ (1 ≤ b ∧ b ≤ 9999 ∧ 0 ≤ a ∧ a ≤ b) → wp_tell_72 z A p s mv a b Q := fun n => no 2 (by decide) (by decide) (Or.inr (Or.inl ⟨ym, n, rfl⟩))
  refine ⟨⟨by decide, by decide⟩, fun _ => ⟨hb, fun _ => no2 (by omega), fun b1 => ⟨hb, fun _ => no2 (by omega), fun b2 => ⟨ha, fun _ => no2 (by omega), fun a1 => ⟨ha, hb, fun ab z1 hz1 => ?_, fun _ => no2 (by omega)⟩⟩⟩⟩, fun c0 => absurd c0 (by decide)⟩
  subst hz1
  rw [lp_U_same]
  refine ⟨⟨by decide, by decide⟩, fun c0 => absurd rfl c0, fun _ x hx => ⟨⟨by omega, by omega⟩, fun A4 hA4 => ⟨⟨by omega, by omega⟩, fun A5 hA5 => ?_⟩⟩⟩
  have h49 : ∀ i, A5 49 i = if i = x.toNat then a else A 49 i := fun i => by
    rw [hA5, hb_s_other (by decide), hA4, lq_s_fun]
    rfl
  have h50 : ∀ i, A5 50 i = if i = x.toNat then b else A 50 i := fun i => by
    rw [hA5, lq_s_fun, hA4, hb_s_other (by decide)]
    rfl
  refine hQ 0 A5 ?_ (fun k k2 k49 => by rw [hA5, hb_s_other (by omega), hA4, hb_s_other (by omega)]) (Or.inr (Or.inr ⟨ym, by omega, rfl⟩)) ⟨fun q => absurd rfl q, by rw [hA5, hb_s_other (by decide), hA4, hb_s_other (by decide)], by rw [hA5, hb_s_other (by decide), hA4, hb_s_other (by decide)]⟩ (fun _ i => by rw [← hx]; exact ⟨h49 i, h50 i⟩)
  have hI1 := mi_3 hI 0
  obtain ⟨a1', a2, a3, a4, a5, a6, a7, a8, a9, a10⟩ := hI1
  have e : ∀ k, k ≠ 49 → k ≠ 50 → A5 k = A k := fun k k1 k2 => by rw [hA5, hb_s_other k2, hA4, hb_s_other k1]
  have ep : ∀ g p n, lq_pp A5 g p n = lq_pp A g p n := fun g p n => by
    induction n with
    | zero => rfl
    | succ n ih => simp only [lq_pp]; rw [ih, e 28 (by decide) (by decide)]
  unfold mi_I
  rw [e 4 (by decide) (by decide), e 52 (by decide) (by decide), e 51 (by decide) (by decide)]
  refine ⟨a1', a2, a3, a4, a5, fun ck => ?_, (hb_arr (e 0 (by decide) (by decide)) (e 1 (by decide) (by decide)) (e 2 (by decide) (by decide))).1 a7, a8, a9, a10⟩
  obtain ⟨b1', b2', b3'⟩ := a6 ck
  have hW : mg_W A5 := by
    intro i hi
    have h49 : A5 49 i = if i = x.toNat then a else A 49 i := by
      rw [hA5, hb_s_other (by decide), hA4, lq_s_fun]
      rfl
    have h50 : A5 50 i = if i = x.toNat then b else A 50 i := by
      rw [hA5, lq_s_fun, hA4, hb_s_other (by decide)]
      rfl
    rw [h49, h50]
    split
    · exact ⟨⟨by omega, by omega⟩, by omega, by omega⟩
    · exact b3' i hi
  refine ⟨?_, ?_, hW⟩
  · unfold mg_G mg_E mg_S at *
    rw [e 14 (by decide) (by decide), e 19 (by decide) (by decide), e 20 (by decide) (by decide), e 21 (by decide) (by decide), e 22 (by decide) (by decide), e 23 (by decide) (by decide), e 25 (by decide) (by decide), e 26 (by decide) (by decide), e 28 (by decide) (by decide), ep, ep]
    exact b1'
  · unfold mg_D at *
    rw [e 14 (by decide) (by decide), e 20 (by decide) (by decide), e 21 (by decide) (by decide), e 22 (by decide) (by decide)]
    exact b2'
theorem we_read {T : sp_T} {ps : Nat → Nat} {nt : Nat} {z : Nat → Int} {A : Nat → Nat → Int} {Q : Int → (Nat → Int) → (Nat → Nat → Int) → Prop} (TK : tk_T (A 4) (z 5).toNat T ps nt) (hI : mi_I z A) (hQ : ∀ r z' C, mi_I z' C → z' 5 = 0 → sp_R T (z 5) r (z' 6) → (r = 0 → z' 34 = 1 ∧ (∃ σ, sp_G T σ ∧ mg_R (z' 32).toNat C σ) ∧ me_N C ∧ ∀ i, i < 4 → C 51 i = 0) → (¬ r = 0 → z' 34 = z 34 ∧ z' 32 = z 32 ∧ (∀ σ, mg_R (z 32).toNat A σ → mg_R (z 32).toNat C σ) ∧ C 49 = A 49 ∧ C 50 = A 50 ∧ C 51 = A 51 ∧ C 53 = A 53) → Q r z' C) : wp_read z A Q := by
  obtain ⟨i1, i2, i3, i4, i5, i6, i7, i8, i9, i10⟩ := hI
  obtain ⟨d, hd, hz33⟩ : ∃ d : Nat, d < 2 ∧ z 33 = (d : Int) := ⟨(z 33).toNat, by omega, by omega⟩
  intro z9 hz9
  have g9 : ∀ q, q ≠ 3 → z9 q = z q := fun q a => by rw [hz9, lp_U_other a]
  obtain ⟨n, en⟩ : ∃ n, n = nt := ⟨nt, rfl⟩
  refine wv_cut (by rw [g9 5 (by decide)]; exact i1) (by rw [g9 5 (by decide)]; exact i2) (by rw [g9 5 (by decide)]; exact TK) (fun A12 hZ hT TB z13 hz13 => ?_)
  rw [← en] at hT TB hz13
  have kin : ∀ j, j < n → T.1 j = 0 ∨ T.1 j = 48 ∨ T.1 j = 1 ∨ cl_w (T.1 j) := fun j hj => by
    obtain ⟨b, tb, -⟩ := TK.2.2 j (by omega)
    exact cl_R_kind tb
  have g13 : ∀ q, q ≠ 3 → q ≠ 5 → q ≠ 10 → z13 q = z q := fun q a b c => by rw [hz13, lp_U_other b, lp_U_other c]; exact g9 q a
  have g13a : z13 5 = 0 := by rw [hz13, lp_U_same]
  have g13b : z13 10 = (n : Int) := by rw [hz13, lp_U_other (by decide), lp_U_same]
  refine wv_bad (fun j hj => (TB j hj).1) kin hT (fun r z15 B hz15 hK hr => ?_)
  have n1 := hT.2.1
  have g : ∀ q, q ≠ 3 → q ≠ 5 → q ≠ 10 → q ≠ 12 → z15 q = z q := fun q a b c e => by rw [hz15 q e]; exact g13 q a b c
  have g5 : z15 5 = 0 := by rw [hz15 5 (by decide)]; exact g13a
  have g10 : z15 10 = (n : Int) := by rw [hz15 10 (by decide)]; exact g13b
  have b0 : ∀ k, k ≠ 7 → k ≠ 8 → k ≠ 9 → k ≠ 11 → B k = A k := fun k a b c e => by rw [hK k e]; exact hZ k a b c
  -- what was is kept
  have kept : ∀ (z' : Nat → Int) (C : Nat → Nat → Int), mz_R d B C → z' 5 = 0 → z' 34 = z 34 → z' 32 = z 32 → z' 33 = z 33 → z' 57 = z 57 → mi_I z' C := by
    intro z' C hR h5 h34 h32 h33 h57
    have c0 : ∀ k, (k < 7 ∨ 44 < k) → C k = A k := fun k hk => by rw [hR.1 k (by omega) (by omega)]; exact b0 k (by omega) (by omega) (by omega) (by omega)
    unfold mi_I
    rw [h5, h34, h32, h33, h57, c0 52 (by decide), c0 51 (by decide)]
    refine ⟨by decide, fun i hi => by omega, i3, i4, i5, fun c => ?_, (hb_arr (c0 0 (by decide)) (c0 1 (by decide)) (c0 2 (by decide))).1 i7, i8, i9, i10⟩
    obtain ⟨j1, j2, j3⟩ := i6 c
    have hB : mg_G B (z 32).toNat ∧ mg_D B (z 32).toNat := by
      have e : ∀ k, 11 < k → B k = A k := fun k hk => b0 k (by omega) (by omega) (by omega) (by omega)
      have ep : ∀ g p n, lq_pp B g p n = lq_pp A g p n := fun g p n => by
        induction n with
        | zero => rfl
        | succ n ih => simp only [lq_pp]; rw [ih, e 28 (by decide)]
      unfold mg_G mg_E mg_S mg_D at *
      rw [e 14 (by decide), e 19 (by decide), e 20 (by decide), e 21 (by decide), e 22 (by decide), e 23 (by decide), e 25 (by decide), e 26 (by decide), e 28 (by decide), ep, ep]
      exact ⟨j1, j2⟩
    obtain ⟨k1, k2⟩ := mz_R_G hd (by omega) (by omega) hR hB.1 hB.2
    refine ⟨k1, k2, ?_⟩
    unfold mg_W at *
    rw [c0 49 (by decide), c0 50 (by decide)]
    exact j3
  have TBB : tk_B T B n := fun j hj => by rw [hK 7 (by decide), hK 8 (by decide), hK 9 (by decide)]; exact TB j hj
  refine ⟨by rcases hr with ⟨h, -⟩ | h <;> exact ⟨by omega, by omega⟩, fun neg => ?_, fun pos => ⟨?_, fun z27 hz27 => ?_⟩⟩
  · obtain ⟨hA, okk⟩ : ma_A (ma_t A12 n) 0 [300, 0] ∧ ∃ k', sp_ok T.1 k' := by
      rcases hr with ⟨-, h⟩ | h
      · exact h
      · omega
    obtain ⟨ok, hok⟩ := okk
    have lst : T.2.1 (n - 1) = z 5 := by
      rw [en, tk_last TK hok]
      omega
    have e7 : B 7 = A12 7 := hK 7 (by decide)
    have hT' : mc_T B n := by
      unfold mc_T mc_K at *
      rw [e7, hK 8 (by decide), hK 9 (by decide)]
      exact hT
    have ht : ma_t B n = ma_t A12 n := by
      unfold ma_t
      rw [e7]
    have g33 : z15 33 = (d : Int) := by rw [g 33 (by decide) (by decide) (by decide) (by decide)]; exact hz33
    refine wv_go TBB kin hd g33 g10 hT' (by rw [ht]; exact hA) (fun z19 C w1 w3 hR hX9 hO => ⟨w3, fun z0 z22 h22 z23 h23 z24 h24 z25 h25 => ?_, fun nz z26 h26 => ?_⟩)
    · obtain ⟨hg, kx, σ, hrun, oc, hMB, hWT⟩ : (mg_G C d ∧ mg_D C d) ∧ ∃ (k' : Nat) (σ : Nat → Nat → Int), sp_r T (sp_bg T (fun _ _ => 0) 0 [] 1 1) (0, -1, k', σ, []) ∧ sp_oc σ 0 ∧ mr_B d C σ [] ∧ (C 25 d = sp_cm σ (σ 0 1).toNat ∧ ∀ j : Nat, (j : Int) < σ 0 1 → C 19 (400 * d + j) = sp_we σ j) := by
        rcases hO with h | ⟨-, h⟩
        · exact absurd z0 h.1
        · exact h
      have v : ∀ q, q ≠ 6 → q ≠ 32 → q ≠ 33 → q ≠ 34 → z25 q = z19 q := fun q a b c e => by rw [h25, lp_U_other a, h24, lp_U_other e, h23, lp_U_other c, h22, lp_U_other b]
      have z19_33 : z19 33 = (d : Int) := by rw [w1 33 (by decide) (by decide) (by decide) (by decide) (by decide) (by decide)]; exact g33
      have v5 : z25 5 = 0 := by rw [v 5 (by decide) (by decide) (by decide) (by decide), w1 5 (by decide) (by decide) (by decide) (by decide) (by decide) (by decide)]; exact g5
      have v57 : z25 57 = z 57 := by rw [v 57 (by decide) (by decide) (by decide) (by decide), w1 57 (by decide) (by decide) (by decide) (by decide) (by decide) (by decide)]; exact g 57 (by decide) (by decide) (by decide) (by decide)
      have v34 : z25 34 = 1 := by rw [h25, lp_U_other (by decide), h24, lp_U_same]
      have v32 : z25 32 = (d : Int) := by rw [h25, lp_U_other (by decide), h24, lp_U_other (by decide), h23, lp_U_other (by decide), h22, lp_U_same]; exact z19_33
      have v33 : z25 33 = 1 - (d : Int) := by rw [h25, lp_U_other (by decide), h24, lp_U_other (by decide), h23, lp_U_same, h22, lp_U_same, z19_33]
      have c0 : ∀ k, (k < 7 ∨ 44 < k) → C k = A k := fun k hk => by rw [hR.1 k (by omega) (by omega)]; exact b0 k (by omega) (by omega) (by omega) (by omega)
      have second : ∀ D, (∀ k, k ≠ 49 → k ≠ 50 → k ≠ 51 → D k = C k) → (∀ s, D 51 s = 0 ∨ D 51 s = 1) → (∀ i, i < 4 → D 51 i = 0) → wp_read_105 z25 D 0 Q := by
        intro D hD h51 hno P hP
        have key : ∀ (m i : Nat) (F : Nat → Nat → Int), 80 - i = m → i ≤ 80 → (∀ k, k ≠ 49 → k ≠ 50 → F k = D k) → (∀ q, q < i → F 49 q = (if q % 4 = 0 then 1 else 0) ∧ F 50 q = 1) → P F (i : Int) := by
          intro m
          induction m with
          | zero =>
            intro i F hm hi hF hW
            refine hP F _ ⟨⟨by omega, by omega⟩, fun _ => hQ 0 z25 F ?_ v5 (by rw [show z25 6 = -1 by rw [h25, lp_U_same]]; exact sp_G_R ⟨⟨ok, hok⟩, kx, hrun, oc⟩ _) (fun _ => ⟨v34, ⟨σ, ⟨⟨ok, hok⟩, kx, hrun, oc⟩, by
              rw [v32, show ((d : Int)).toNat = d by omega]
              have f0 : ∀ k, k ≠ 49 → k ≠ 50 → k ≠ 51 → F k = C k := fun k a b c => by rw [hF k a b]; exact hD k a b c
              refine mg_of (F := []) ?_ (by rw [f0 14 (by decide) (by decide) (by decide)]; exact hg.1.1.1.2) (by
                have q := hg.2
                unfold mg_D at *
                rw [f0 14 (by decide) (by decide) (by decide), f0 20 (by decide) (by decide) (by decide), f0 21 (by decide) (by decide) (by decide), f0 22 (by decide) (by decide) (by decide)]
                exact q) (by rw [f0 25 (by decide) (by decide) (by decide)]; exact hWT.1) (fun j hj => by rw [f0 19 (by decide) (by decide) (by decide)]; exact hWT.2 j hj)
              exact mr_up hMB (fun _ _ => rfl) rfl (by have q := hMB.1; unfold mr_c at *; rw [f0 13 (by decide) (by decide) (by decide), f0 14 (by decide) (by decide) (by decide), f0 15 (by decide) (by decide) (by decide), f0 16 (by decide) (by decide) (by decide)]; exact q) (fun q hq => f0 q (by omega) (by omega) (by omega)) (fun q j _ _ _ => by rw [f0 q (by omega) (by omega) (by omega)]) (fun i _ => by rw [f0 43 (by decide) (by decide) (by decide), f0 44 (by decide) (by decide) (by decide)]; exact ⟨rfl, rfl⟩)⟩, fun q hq => hW q (by omega), fun i hi => by rw [hF 51 (by decide) (by decide)]; exact hno i hi⟩) (fun q => absurd rfl q), fun c => by omega⟩
            have f0 : ∀ k, k ≠ 49 → k ≠ 50 → k ≠ 51 → F k = C k := fun k a b c => by rw [hF k a b]; exact hD k a b c
            unfold mi_I
            rw [v5, v34, v32, v33, v57, hF 51 (by decide) (by decide), f0 52 (by decide) (by decide) (by decide), c0 52 (by decide)]
            refine ⟨by decide, fun i hi => by omega, Or.inr rfl, by omega, rfl, fun _ => ?_, ?_, i8, h51, i10⟩
            · have ed : ((d : Int)).toNat = d := by omega
              rw [ed]
              obtain ⟨k1, k2⟩ := mg_G_49 f0 hg.1 hg.2
              refine ⟨k1, k2, fun q hq => ?_⟩
              obtain ⟨u1, u2⟩ := hW q (by omega)
              have u3 : F 49 q = 0 ∨ F 49 q = 1 := by
                rw [u1]
                split
                · exact Or.inr rfl
                · exact Or.inl rfl
              rw [u2]
              omega
            · refine (hb_arr ?_ ?_ ?_).1 i7
              · rw [f0 0 (by decide) (by decide) (by decide)]
                exact c0 0 (by decide)
              · rw [f0 1 (by decide) (by decide) (by decide)]
                exact c0 1 (by decide)
              · rw [f0 2 (by decide) (by decide) (by decide)]
                exact c0 2 (by decide)
          | succ m ih =>
            intro i F hm hi hF hW
            have ei : ((i : Int)).toNat = i := by omega
            have wr : ∀ t0 : Int, t0 = (if i % 4 = 0 then 1 else 0) → wp_read_127 z25 F (i : Int) t0 (i : Int) P Q := by
              intro t0 h0
              refine ⟨by omega, fun G hG => ⟨by omega, fun H hH x hx => ?_⟩⟩
              have ex : x = ((i + 1 : Nat) : Int) := by omega
              rw [ex]
              refine ih (i + 1) H (by omega) (by omega) (fun k a b => by rw [hH, hb_s_other b, hG, hb_s_other a]; exact hF k a b) (fun q hq => ?_)
              have q49 : H 49 q = if q = i then t0 else F 49 q := by
                rw [hH, hb_s_other (by decide), hG, lq_s_fun]
                unfold hz_u
                rw [ei]
              have q50 : H 50 q = if q = i then 1 else F 50 q := by
                rw [hH, lq_s_fun]
                unfold hz_u
                rw [ei, hG, hb_s_other (by decide)]
              rw [q49, q50]
              by_cases e9 : q = i
              · rw [if_pos e9, if_pos e9, e9]
                exact ⟨h0, rfl⟩
              · rw [if_neg e9, if_neg e9]
                exact hW q (by omega)
            have em : ((i : Int)).tmod 4 = (i : Int) % 4 := Int.tmod_eq_emod_of_nonneg (by omega)
            refine hP F _ ⟨⟨by omega, by omega⟩, fun c => by omega, fun _ => ⟨⟨by omega, by omega⟩, by rw [em]; exact ⟨by omega, by omega⟩, fun c9 => wr 0 (by rw [em] at c9; rw [if_neg (by omega)]), fun c9 => wr 1 (by rw [em] at c9; rw [if_pos (by omega)])⟩⟩
        exact key _ 0 D rfl (by omega) (fun _ _ _ => rfl) (fun q hq => by omega)
      intro P hP
      have key : ∀ (m i : Nat) (F : Nat → Nat → Int), 4 - i = m → i ≤ 4 → (∀ k, k ≠ 51 → F k = C k) → (∀ s, F 51 s = 0 ∨ F 51 s = 1) → (∀ q, q < i → F 51 q = 0) → P F (i : Int) := by
        intro m
        induction m with
        | zero =>
          intro i F hm hi hF h51 hno
          exact hP F _ ⟨⟨by omega, by omega⟩, fun _ => second F (fun k _ _ c => hF k c) h51 (fun q hq => hno q (by omega)), fun c => by omega⟩
        | succ m ih =>
          intro i F hm hi hF h51 hno
          refine hP F _ ⟨⟨by omega, by omega⟩, fun c => by omega, fun _ => ⟨by omega, fun G hG x hx => ?_⟩⟩
          have ex : x = ((i + 1 : Nat) : Int) := by omega
          rw [ex]
          refine ih (i + 1) G (by omega) (by omega) (fun k a => by rw [hG, hb_s_other a]; exact hF k a) (fun s => ?_) (fun q hq => by
            rw [hG, lq_s_fun]
            unfold hz_u
            by_cases e9 : q = i
            · rw [if_pos (by omega)]
            · rw [if_neg (by omega)]
              exact hno q (by omega))
          rw [hG, lq_s_fun]
          unfold hz_u
          split
          · exact Or.inl rfl
          · exact h51 s
      exact key _ 0 C rfl (by omega) (fun _ _ => rfl) (fun s => by rw [c0 51 (by decide)]; exact i9 s) (fun q hq => by omega)
    · have v : ∀ q, q ≠ 6 → q ≠ 35 → q ≠ 36 → (q < 45 ∨ 48 < q) → z26 q = z15 q := fun q a b c e => by rw [h26, lp_U_other a]; exact w1 q b c (by omega) (by omega) (by omega) (by omega)
      have v5 : z26 5 = 0 := by rw [v 5 (by decide) (by decide) (by decide) (by decide)]; exact g5
      have p6 : z26 6 = z19 36 := by rw [h26, lp_U_same]
      have sR : sp_R T (z 5) (z19 35) (z26 6) := by
        rw [p6]
        rcases hO with ⟨-, h | ⟨k', σ, h1, h2, h3⟩⟩ | ⟨h, -⟩
        · exact Or.inr ⟨ok, hok, Or.inl ⟨nz, h⟩⟩
        · exact Or.inr ⟨ok, hok, Or.inr ⟨k', σ, h1, h2, Or.inr ⟨nz, by rw [h3, lst]⟩⟩⟩
        · exact absurd h nz
      have g35 : z26 35 = z19 35 := by rw [h26, lp_U_other (by decide)]
      refine hQ _ z26 C (kept z26 C hR v5 ?_ ?_ ?_ ?_) v5 (by first | exact sR | (rw [g35]; exact sR)) (fun q => absurd q (by first | exact nz | (rw [g35]; exact nz))) (fun _ => ⟨by rw [v 34 (by decide) (by decide) (by decide) (by decide)]; exact g 34 (by decide) (by decide) (by decide) (by decide), by rw [v 32 (by decide) (by decide) (by decide) (by decide)]; exact g 32 (by decide) (by decide) (by decide) (by decide), fun σ hs => mg_keep hd (by omega) (by omega) hR hX9 (mg_B b0 hs), by rw [hR.1 49 (by omega) (by omega)]; exact b0 49 (by decide) (by decide) (by decide) (by decide), by rw [hR.1 50 (by omega) (by omega)]; exact b0 50 (by decide) (by decide) (by decide) (by decide), by rw [hR.1 51 (by omega) (by omega)]; exact b0 51 (by decide) (by decide) (by decide) (by decide), by rw [hR.1 53 (by omega) (by omega)]; exact b0 53 (by decide) (by decide) (by decide) (by decide)⟩)
      · rw [v 34 (by decide) (by decide) (by decide) (by decide)]
        exact g 34 (by decide) (by decide) (by decide) (by decide)
      · rw [v 32 (by decide) (by decide) (by decide) (by decide)]
        exact g 32 (by decide) (by decide) (by decide) (by decide)
      · rw [v 33 (by decide) (by decide) (by decide) (by decide)]
        exact g 33 (by decide) (by decide) (by decide) (by decide)
      · rw [v 57 (by decide) (by decide) (by decide) (by decide)]
        exact g 57 (by decide) (by decide) (by decide) (by decide)
  · rcases hr with ⟨h, -⟩ | h <;> omega
  · have v : ∀ q, q ≠ 6 → z27 q = z15 q := fun q a => by rw [hz27, lp_U_other a]
    have v5 : z27 5 = 0 := by rw [v 5 (by decide)]; exact g5
    have sR : sp_R T (z 5) 1 (z27 6) := by
      rcases hr with ⟨h, -⟩ | ⟨h1, h2, h3⟩
      · omega
      · refine Or.inl ⟨r.toNat, h3, rfl, ?_⟩
        rw [hz27, lp_U_same]
        exact (TBB r.toNat (by omega)).2.1
    refine hQ _ z27 B (kept z27 B (mz_R_refl d B) v5 ?_ ?_ ?_ ?_) v5 sR (fun q => by omega) (fun _ => ⟨by rw [v 34 (by decide)]; exact g 34 (by decide) (by decide) (by decide) (by decide), by rw [v 32 (by decide)]; exact g 32 (by decide) (by decide) (by decide) (by decide), fun σ hs => mg_B b0 hs, b0 49 (by decide) (by decide) (by decide) (by decide), b0 50 (by decide) (by decide) (by decide) (by decide), b0 51 (by decide) (by decide) (by decide) (by decide), b0 53 (by decide) (by decide) (by decide) (by decide)⟩)
    · rw [v 34 (by decide)]
      exact g 34 (by decide) (by decide) (by decide) (by decide)
    · rw [v 32 (by decide)]
      exact g 32 (by decide) (by decide) (by decide) (by decide)
    · rw [v 33 (by decide)]
      exact g 33 (by decide) (by decide) (by decide) (by decide)
    · rw [v 57 (by decide)]
      exact g 57 (by decide) (by decide) (by decide) (by decide)

