theorem sp_fd_congr {f g : Nat → Int} {v : Int} {n : Nat} (h : ∀ i, i < n → f i = g i) : sp_fd f v n = sp_fd g v n := by
  induction n with
  | zero => rfl
  | succ n ih =>
    simp only [sp_fd]
    rw [ih (fun i hi => h i (by omega)), h n (by omega)]
theorem sp_fd_stay {f : Nat → Int} {v : Int} {n m : Nat} (h : ¬ sp_fd f v n = -1) (hm : n ≤ m) : sp_fd f v m = sp_fd f v n := by
  induction m with
  | zero => rw [show n = 0 by omega]
  | succ m ih =>
    by_cases e : n = m + 1
    · rw [e]
    · have q := ih (by omega)
      have h' : sp_fd f v m ≠ -1 := by rw [q]; exact h
      simp only [sp_fd]
      rw [if_pos h', q]
theorem sp_fd_rng {f : Nat → Int} {v : Int} {n : Nat} : sp_fd f v n = -1 ∨ (0 ≤ sp_fd f v n ∧ sp_fd f v n < (n : Int)) := by
  induction n with
  | zero => exact Or.inl rfl
  | succ n ih =>
    simp only [sp_fd]
    split
    · rcases ih with h | h
      · omega
      · exact Or.inr (by omega)
    · split
      · exact Or.inr (by omega)
      · exact Or.inl rfl
section CS
variable {L : List Nat} {K : Nat → cw_K} {r : Nat → Nat → Nat} {z A : Nat → Nat → Int} {w : Nat → Nat × Nat} {ρ : Nat → Nat} {z0 A0 : Nat → Nat → Int} {R : Nat} {P : Nat → Int → Prop} {O : Nat → Nat → Prop} {E : Int} {c : Nat → Int} {n : Nat} {T : sp_T} {ps : Nat → Nat} {nt : Nat} {σ : Nat → Nat → Int}
/-- what the reader has found so far is σ -/
noncomputable def sc_R (K : Nat → cw_K) (r : Nat → Nat → Nat) (R : Nat) (σ z A : Nat → Nat → Int) : Prop :=
  (∀ i, i < 4 → A (r (r R 3) 0) i = σ 0 i) ∧ (∀ t, t < 2 → z (cw_g K (r (r R 3) 1) t) 0 = σ 1 t ∧ ∀ i : Nat, (i : Int) < σ 1 t → A (r (cw_g K (r (r R 3) 1) t) 1) i = σ (10 + t) i ∧ A (r (cw_g K (r (r R 3) 1) t) 2) i = σ (12 + t) i ∧ A (r (cw_g K (r (r R 3) 1) t) 3) i = σ (14 + t) i ∧ A (r (cw_g K (r (r R 3) 1) t) 4) i = σ (16 + t) i) ∧ ∀ j : Nat, (j : Int) < σ 0 1 → A (r R 9) j = σ 20 j ∧ A (r R 10) j = σ 21 j ∧ A (r R 11) j = σ 22 j ∧ A (r R 12) j = σ 23 j
theorem sc_keep {z' A' : Nat → Nat → Int} (h : sc_R K r R σ z A) (h0 : A' (r (r R 3) 0) = A (r (r R 3) 0)) (hs : ∀ t, t < 2 → z' (cw_g K (r (r R 3) 1) t) 0 = z (cw_g K (r (r R 3) 1) t) 0) (ha : ∀ t k, t < 2 → (k = 1 ∨ k = 2 ∨ k = 3 ∨ k = 4) → A' (r (cw_g K (r (r R 3) 1) t) k) = A (r (cw_g K (r (r R 3) 1) t) k)) (he : ∀ k, (k = 9 ∨ k = 10 ∨ k = 11 ∨ k = 12) → A' (r R k) = A (r R k)) : sc_R K r R σ z' A' := by
  obtain ⟨a, b, d⟩ := h
  refine ⟨fun i hi => by rw [h0]; exact a i hi, fun t ht => ⟨by rw [hs t ht]; exact (b t ht).1, fun i hi => ?_⟩, fun j hj => ?_⟩
  · rw [ha t 1 ht (by omega), ha t 2 ht (by omega), ha t 3 ht (by omega), ha t 4 ht (by omega)]
    exact (b t ht).2 i hi
  · rw [he 9 (by omega), he 10 (by omega), he 11 (by omega), he 12 (by omega)]
    exact d j hj
theorem sc_z (X : cq_X L K r w ρ R) {z' : Nat → Nat → Int} (h : sc_R K r R σ z A) (hz : ∀ a, a ≠ (r R 2) → a ≠ R → z' a = z a) : sc_R K r R σ z' A := by
  have o := (cq_o3 X).2.2.2.2
  exact sc_keep h rfl (fun t ht => by rw [hz _ (o t ht).2.2 (o t ht).1]) (fun _ _ _ _ => rfl) (fun _ _ => rfl)
theorem sc_cnt (X : cq_X L K r w ρ R) {i v : Int} {A' : Nat → Nat → Int} (h : sc_R K r R σ z A) (hi : ¬ i.toNat = 1) (e : A' = hz_s A (r (r R 3) 0) i v) : sc_R K r R (hz_s σ 0 i v) z A' := by
  obtain ⟨a, b, d⟩ := h
  have c3 := (cq_wc X).2.2.1
  have e1 : ∀ q, q ≠ 0 → hz_s σ 0 i v q = σ q := fun q hq => hz_s_a hq
  have oth : ∀ x, x ≠ r (r R 3) 0 → A' x = A x := fun x hx => by rw [e, hz_s_a hx]
  refine ⟨fun j hj => ?_, fun t ht => ?_, fun j hj => ?_⟩
  · by_cases ej : j = i.toNat
    · rw [ej, e, hz_s_same, hz_s_same]
    · rw [e, hz_s_i ej, hz_s_i ej]
      exact a j hj
  · rw [e1 1 (by decide), e1 (10 + t) (by omega), e1 (12 + t) (by omega), e1 (14 + t) (by omega), e1 (16 + t) (by omega)]
    refine ⟨(b t ht).1, fun q hq => ?_⟩
    have f : ∀ k, (k = 1 ∨ k = 2 ∨ k = 3 ∨ k = 4 ∨ k = 6 ∨ k = 7) → A' (r (cw_g K (r (r R 3) 1) t) k) = A (r (cw_g K (r (r R 3) 1) t) k) := fun k hk => oth _ (Ne.symm (cq_apart X ht hk).2.2.1)
    rw [f 1 (by omega), f 2 (by omega), f 3 (by omega), f 4 (by omega)]
    exact (b t ht).2 q hq
  · rw [hz_s_i (Ne.symm hi)] at hj
    have f : ∀ k, (k = 9 ∨ k = 10 ∨ k = 11 ∨ k = 12) → A' (r R k) = A (r R k) := fun k hk => oth _ (Ne.symm (cg_ne c3 (cq_wr X hk).1 (fun q => (cq_o3 X).2.1 q.1)))
    rw [f 9 (by omega), f 10 (by omega), f 11 (by omega), f 12 (by omega), e1 20 (by decide), e1 21 (by decide), e1 22 (by decide), e1 23 (by decide)]
    exact d j hj
/-- a set's moves told -/
theorem sc_mv (X : cq_X L K r w ρ R) {t : Nat} {x m : Int} {A' : Nat → Nat → Int} (h : sc_R K r R σ z A) (ht : t < 2) (hx0 : 0 ≤ x) (hx : x < σ 1 t) (o1 : ∀ a, a ≠ r (cw_g K (r (r R 3) 1) t) 2 → A' a = A a) (o2 : ∀ i : Nat, i ≠ x.toNat → A' (r (cw_g K (r (r R 3) 1) t) 2) i = A (r (cw_g K (r (r R 3) 1) t) 2) i) (om : A' (r (cw_g K (r (r R 3) 1) t) 2) x.toNat = m) : sc_R K r R (hz_s σ (12 + t) x m) z A' := by
  obtain ⟨a, b, d⟩ := h
  have ap := cq_apart X ht (k := 2) (by omega)
  have e1 : ∀ q, q ≠ 12 + t → hz_s σ (12 + t) x m q = σ q := fun q hq => hz_s_a hq
  refine ⟨fun i hi => ?_, fun t' ht' => ?_, fun j hj => ?_⟩
  · rw [o1 _ ap.2.2.1, e1 0 (by omega)]
    exact a i hi
  · rw [e1 1 (by omega), e1 (10 + t') (by omega), e1 (14 + t') (by omega), e1 (16 + t') (by omega)]
    refine ⟨(b t' ht').1, fun i hi => ?_⟩
    obtain ⟨b1, b2, b3, b4⟩ := (b t' ht').2 i hi
    by_cases e : t' = t
    · subst e
      have f : ∀ k, (k = 1 ∨ k = 3 ∨ k = 4) → A' (r (cw_g K (r (r R 3) 1) t') k) = A (r (cw_g K (r (r R 3) 1) t') k) := fun k hk => o1 _ (cg_ne (cq_ws X ht' (by omega)).2.2.1 (cq_ws X ht' (k := 2) (by omega)).2.2.1 (fun q => by omega))
      rw [f 1 (by omega), f 3 (by omega), f 4 (by omega)]
      refine ⟨b1, ?_, b3, b4⟩
      by_cases ei : i = x.toNat
      · rw [ei, om, hz_s_same]
      · rw [o2 i ei, hz_s_i ei]
        exact b2
    · have f : ∀ k, (k = 1 ∨ k = 2 ∨ k = 3 ∨ k = 4 ∨ k = 6 ∨ k = 7) → A' (r (cw_g K (r (r R 3) 1) t') k) = A (r (cw_g K (r (r R 3) 1) t') k) := fun k hk => o1 _ (ap.2.2.2 t' k ht' hk e)
      rw [f 1 (by omega), f 2 (by omega), f 3 (by omega), f 4 (by omega), e1 (12 + t') (by omega)]
      exact ⟨b1, b2, b3, b4⟩
  · rw [e1 0 (by omega)] at hj
    rw [o1 _ (ap.1 9 (by omega)), o1 _ (ap.1 10 (by omega)), o1 _ (ap.1 11 (by omega)), o1 _ (ap.1 12 (by omega)), e1 20 (by omega), e1 21 (by omega), e1 22 (by omega), e1 23 (by omega)]
    exact d j hj
theorem sp_ns_o {t : Nat} {v d : Int} {q : Nat} (h1 : q ≠ 1) (h2 : q ≠ 10 + t) (h3 : q ≠ 12 + t) (h4 : q ≠ 14 + t) (h5 : q ≠ 16 + t) : sp_ns σ t v d q = σ q := by
  unfold sp_ns
  rw [hz_s_a h1, hz_s_a h5, hz_s_a h4, hz_s_a h3, hz_s_a h2]
theorem sp_ns_i {t : Nat} {v d : Int} {q j : Nat} (h1 : q ≠ 1) (h2 : j ≠ (σ 1 t).toNat) : sp_ns σ t v d q j = σ q j := by
  unfold sp_ns
  rw [hz_s_a h1, hz_s_i h2, hz_s_i h2, hz_s_i h2, hz_s_i h2]
theorem sp_ns_x {t : Nat} (ht : t < 2) (v d : Int) : sp_ns σ t v d (10 + t) (σ 1 t).toNat = v ∧ sp_ns σ t v d (12 + t) (σ 1 t).toNat = 0 ∧ sp_ns σ t v d (14 + t) (σ 1 t).toNat = (if d = -1 then 0 else σ (14 + t) (d / 512).toNat + 1) ∧ sp_ns σ t v d (16 + t) (σ 1 t).toNat = d := by
  unfold sp_ns
  refine ⟨?_, ?_, ?_, ?_⟩
  · rw [hz_s_a (by omega), hz_s_a (by omega), hz_s_a (by omega), hz_s_a (by omega), hz_s_same]
  · rw [hz_s_a (by omega), hz_s_a (by omega), hz_s_a (by omega), hz_s_same]
  · rw [hz_s_a (by omega), hz_s_a (by omega), hz_s_same]
  · rw [hz_s_a (by omega), hz_s_same]
theorem sp_ns_1 {t : Nat} (ht : t < 2) (v d : Int) : sp_ns σ t v d 1 t = σ 1 t + 1 ∧ ∀ t', t' ≠ t → sp_ns σ t v d 1 t' = σ 1 t' := by
  unfold sp_ns
  refine ⟨?_, fun t' h => ?_⟩
  · have q := hz_s_same (A := hz_s (hz_s (hz_s (hz_s σ (10 + t) (σ 1 t) v) (12 + t) (σ 1 t) 0) (14 + t) (σ 1 t) (if d = -1 then 0 else σ (14 + t) (d / 512).toNat + 1)) (16 + t) (σ 1 t) d) 1 (t : Int) (σ 1 t + 1)
    rw [show ((t : Int)).toNat = t by omega] at q
    exact q
  · rw [hz_s_i (by omega), hz_s_a (by omega), hz_s_a (by omega), hz_s_a (by omega), hz_s_a (by omega)]
/-- a new set begun -/
theorem sc_new (X : cq_X L K r w ρ R) {t : Nat} {v d : Int} {z' A' : Nat → Nat → Int} (h : sc_R K r R σ z A) (ht : t < 2) (o1 : ∀ a, a ≠ cw_g K (r (r R 3) 1) t → z' a = z a) (o2 : z' (cw_g K (r (r R 3) 1) t) 0 = z (cw_g K (r (r R 3) 1) t) 0 + 1) (eg : A' (r (r R 3) 0) = A (r (r R 3) 0)) (ea : ∀ j, (j = 9 ∨ j = 10 ∨ j = 11 ∨ j = 12) → A' (r R j) = A (r R j)) (oth : ∀ t' k, t' < 2 → (k = 1 ∨ k = 2 ∨ k = 3 ∨ k = 4) → t' ≠ t → A' (r (cw_g K (r (r R 3) 1) t') k) = A (r (cw_g K (r (r R 3) 1) t') k))
    (o7 : ∀ i : Nat, (i : Int) < z (cw_g K (r (r R 3) 1) t) 0 → A' (r (cw_g K (r (r R 3) 1) t) 1) i = A (r (cw_g K (r (r R 3) 1) t) 1) i ∧ A' (r (cw_g K (r (r R 3) 1) t) 2) i = A (r (cw_g K (r (r R 3) 1) t) 2) i ∧ A' (r (cw_g K (r (r R 3) 1) t) 3) i = A (r (cw_g K (r (r R 3) 1) t) 3) i ∧ A' (r (cw_g K (r (r R 3) 1) t) 4) i = A (r (cw_g K (r (r R 3) 1) t) 4) i)
    (o8 : A' (r (cw_g K (r (r R 3) 1) t) 1) (z (cw_g K (r (r R 3) 1) t) 0).toNat = v ∧ A' (r (cw_g K (r (r R 3) 1) t) 2) (z (cw_g K (r (r R 3) 1) t) 0).toNat = 0 ∧ A' (r (cw_g K (r (r R 3) 1) t) 3) (z (cw_g K (r (r R 3) 1) t) 0).toNat = (if d = -1 then 0 else A (r (cw_g K (r (r R 3) 1) t) 3) (d / 512).toNat + 1) ∧ A' (r (cw_g K (r (r R 3) 1) t) 4) (z (cw_g K (r (r R 3) 1) t) 0).toNat = d) (hz : 0 ≤ z (cw_g K (r (r R 3) 1) t) 0) (hd : d = -1 ∨ (0 ≤ d ∧ d / 512 < z (cw_g K (r (r R 3) 1) t) 0)) : sc_R K r R (sp_ns σ t v d) z' A' := by
  obtain ⟨a, b, e⟩ := h
  obtain ⟨s1, s2⟩ := b t ht
  rw [s1] at o2 o7 o8 hz hd
  obtain ⟨x1, x2, x3, x4⟩ := sp_ns_x (σ := σ) ht v d
  obtain ⟨y1, y2⟩ := sp_ns_1 (σ := σ) ht v d
  refine ⟨fun i hi => ?_, fun t' ht' => ?_, fun j hj => ?_⟩
  · rw [eg, sp_ns_o (by decide) (by omega) (by omega) (by omega) (by omega)]
    exact a i hi
  · by_cases e : t' = t
    · subst e
      rw [o2, y1]
      refine ⟨rfl, fun i hi => ?_⟩
      by_cases ei : i = (σ 1 t').toNat
      · rw [ei, x1, x2, x3, x4, o8.1, o8.2.1, o8.2.2.1, o8.2.2.2]
        refine ⟨rfl, rfl, ?_, rfl⟩
        split
        · rfl
        · rw [(s2 (d / 512).toNat (by omega)).2.2.1]
      · rw [sp_ns_i (by omega) ei, sp_ns_i (by omega) ei, sp_ns_i (by omega) ei, sp_ns_i (by omega) ei]
        obtain ⟨p1, p2, p3, p4⟩ := o7 i (by omega)
        rw [p1, p2, p3, p4]
        exact s2 i (by omega)
    · have ne : cw_g K (r (r R 3) 1) t' ≠ cw_g K (r (r R 3) 1) t := cq_side_ne X ht' ht e
      rw [o1 _ ne, y2 t' e]
      refine ⟨(b t' ht').1, fun i hi => ?_⟩
      rw [oth t' 1 ht' (by omega) e, oth t' 2 ht' (by omega) e, oth t' 3 ht' (by omega) e, oth t' 4 ht' (by omega) e, sp_ns_o (by omega) (by omega) (by omega) (by omega) (by omega), sp_ns_o (by omega) (by omega) (by omega) (by omega) (by omega), sp_ns_o (by omega) (by omega) (by omega) (by omega) (by omega), sp_ns_o (by omega) (by omega) (by omega) (by omega) (by omega)]
      exact (b t' ht').2 i hi
  · rw [sp_ns_o (by decide) (by omega) (by omega) (by omega) (by omega)] at hj
    rw [ea 9 (by omega), ea 10 (by omega), ea 11 (by omega), ea 12 (by omega), sp_ns_o (by omega) (by omega) (by omega) (by omega) (by omega), sp_ns_o (by omega) (by omega) (by omega) (by omega) (by omega), sp_ns_o (by omega) (by omega) (by omega) (by omega) (by omega), sp_ns_o (by omega) (by omega) (by omega) (by omega) (by omega)]
    exact e j hj
theorem wv_c7_find {s : Nat} {y : Int} (hO : cw_O L K 7 s) (h7 : cg_7 L K r w ρ) (hA : cr_A L K A) (hz : 0 ≤ z s 0 ∧ z s 0 ≤ 10) (hy : hz_rI y) {Q : Int → Prop} (h1 : ∀ x : Int, 0 ≤ x → x < z s 0 → x = sp_fd (A (r s 1)) y (z s 0).toNat → Q x) (h0 : sp_fd (A (r s 1)) y (z s 0).toNat = -1 → Q (-1)) : wp_c7_find L K z r A s y Q := by
  obtain ⟨⟨a1, a2, -, -⟩, -⟩ := h7 s hO
  intro PP hPP
  have key : ∀ (k n : Nat) (x : Int), n + (k : Int) = z s 0 → x = (n : Int) → sp_fd (A (r s 1)) y n = -1 → PP x := by
    intro k
    induction k with
    | zero => intro n x hk ex hf; exact hPP x ⟨hO, by omega, by omega, fun _ => h0 (by rw [show (z s 0).toNat = n by omega]; exact hf), fun c => by omega⟩
    | succ k ih =>
      intro n x hk ex hf
      have xn : x.toNat = n := by omega
      refine hPP x ⟨hO, by omega, by omega, fun c => by omega, fun _ => ⟨a1, by omega, (hA _).1 a1 _, hy, fun ne x1 e1 => ih (n + 1) x1 (by omega) (by omega) ?_, fun eq => h1 x (by omega) (by omega) ?_⟩⟩
      · rw [xn] at ne
        simp only [sp_fd]
        rw [if_neg (by rw [hf]; decide), if_neg ne]
      · rw [xn] at eq
        have f1 : sp_fd (A (r s 1)) y (n + 1) = (n : Int) := by
          simp only [sp_fd]
          rw [if_neg (by rw [hf]; decide), if_pos eq]
        rw [sp_fd_stay (n := n + 1) (by rw [f1]; omega) (by omega), f1]
        exact ex
  exact key (z s 0).toNat 0 0 (by omega) rfl rfl
theorem wv_c7_begin {s : Nat} {y d : Int} {p : Int → Prop} {o : Nat → Prop} (hO : cw_O L K 7 s) (hdg : ∀ a, cw_O L K 0 a → w (r a 0) = (a, 0)) (h7 : cg_7 L K r w ρ) (hJ : cJ L K r z A) (hB : cq_B r z A s p o) (hs : z s 0 < 10) (hy : hz_rI y) (hd : cq_d r z A s p d) {Q : Int → (Nat → Nat → Int) → (Nat → Nat → Int) → Prop} (hQ : ∀ z' A' : Nat → Nat → Int, (∀ a, a ≠ s → z' a = z a) → z' s 0 = z s 0 + 1 → (∀ a, a ≠ r s 1 → a ≠ r s 2 → a ≠ r s 3 → a ≠ r s 4 → A' a = A a) → (∀ i : Nat, (i : Int) < z s 0 → A' (r s 2) i = A (r s 2) i) → cJ L K r z' A' → cq_B r z' A' s p (fun i => o i ∨ (i : Int) = z s 0) → (∀ i : Nat, (i : Int) < z s 0 → A' (r s 1) i = A (r s 1) i ∧ A' (r s 2) i = A (r s 2) i ∧ A' (r s 3) i = A (r s 3) i ∧ A' (r s 4) i = A (r s 4) i) → (A' (r s 1) (z s 0).toNat = y ∧ A' (r s 2) (z s 0).toNat = 0 ∧ A' (r s 3) (z s 0).toNat = (if d = -1 then 0 else A (r s 3) (d / 512).toNat + 1) ∧ A' (r s 4) (z s 0).toNat = d) → Q (z s 0) z' A') : wp_c7_begin L K z r A s y d Q := by
  obtain ⟨⟨a1, a2, a3, a4⟩, ⟨b1, b2, b3, b4⟩, ⟨c1, c2, c3, c4⟩, ⟨e1, e2, e3, e4⟩, -, -⟩ := h7 s hO
  have n12 : r s 1 ≠ r s 2 := cg_ne a3 b3 (by simp)
  have n13 : r s 1 ≠ r s 3 := cg_ne a3 c3 (by simp)
  have n14 : r s 1 ≠ r s 4 := cg_ne a3 e3 (by simp)
  have n23 : r s 2 ≠ r s 3 := cg_ne b3 c3 (by simp)
  have n24 : r s 2 ≠ r s 4 := cg_ne b3 e3 (by simp)
  have n34 : r s 3 ≠ r s 4 := cg_ne c3 e3 (by simp)
  have hz := hB.1
  have dr : hz_rI d := by
    rcases hd with h | ⟨h, h', -⟩
    · omega
    · omega
  have dz : d < z s 0 * 512 := by
    rcases hd with h | ⟨h, h', -⟩
    · omega
    · omega
  refine ⟨hO, by omega, fun x ex => ⟨a1, by omega, fun A1 q1 => ⟨b1, by omega, fun A2 q2 => ⟨e1, by omega, fun A3 q3 => ?_⟩⟩⟩⟩
  have ex' : x = z s 0 := by omega
  clear ex
  subst ex'
  have fin : ∀ v : Int, 0 ≤ v → v ≤ z s 0 → v = (if d = -1 then 0 else A (r s 3) (d / 512).toNat + 1) → wp_c7_begin_56 L K z r A3 s (z s 0) v (z s 0) (r s 3) Q := by
    intro v v0 v1 ev
    refine ⟨c1, by omega, fun A4 q4 => ⟨hO, fun z1 ez => ?_⟩⟩
    have zs : z1 s 0 = z s 0 + 1 := by rw [ez, cw_s_same]
    have m2 : ∀ i : Nat, i ≠ (z s 0).toNat → A4 (r s 2) i = A (r s 2) i := fun i hi => by rw [q4, hz_s_a n23, q3, hz_s_a n24, q2, hz_s_i hi, q1, hz_s_a (Ne.symm n12)]
    have m2x : A4 (r s 2) (z s 0).toNat = 0 := by rw [q4, hz_s_a n23, q3, hz_s_a n24, q2, hz_s_same]
    have m3 : ∀ i : Nat, i ≠ (z s 0).toNat → A4 (r s 3) i = A (r s 3) i := fun i hi => by rw [q4, hz_s_i hi, q3, hz_s_a n34, q2, hz_s_a (Ne.symm n23), q1, hz_s_a (Ne.symm n13)]
    have m3x : A4 (r s 3) (z s 0).toNat = v := by rw [q4, hz_s_same]
    have m4 : ∀ i : Nat, i ≠ (z s 0).toNat → A4 (r s 4) i = A (r s 4) i := fun i hi => by rw [q4, hz_s_a (Ne.symm n34), q3, hz_s_i hi, q2, hz_s_a (Ne.symm n24), q1, hz_s_a (Ne.symm n14)]
    have m4x : A4 (r s 4) (z s 0).toNat = d := by rw [q4, hz_s_a (Ne.symm n34), q3, hz_s_same]
    have m1 : ∀ i : Nat, i ≠ (z s 0).toNat → A4 (r s 1) i = A (r s 1) i := fun i hi => by rw [q4, hz_s_a n13, q3, hz_s_a n14, q2, hz_s_a n12, q1, hz_s_i hi]
    have m1x : A4 (r s 1) (z s 0).toNat = y := by rw [q4, hz_s_a n13, q3, hz_s_a n14, q2, hz_s_a n12, q1, hz_s_same]
    have kd : ∀ d, cq_d r z A s p d → cq_d r z1 A4 s p d := fun d h => cq_d_mono h (by omega) (fun i hi _ => m2 i (by omega)) (fun _ h => h)
    have g1 := cg_dig hdg a3 hO (by decide)
    have g2 := cg_dig hdg b3 hO (by decide)
    have g3 := cg_dig hdg c3 hO (by decide)
    have g4 := cg_dig hdg e3 hO (by decide)
    have j1 : cJ L K r z A1 := by rw [q1]; exact cJ_st hJ a1 g1 ⟨fun _ => hy, by omega, by omega, by omega⟩
    have j2 : cJ L K r z A2 := by rw [q2]; exact cJ_st j1 b1 g2 ⟨fun _ => by omega, by omega, by omega, by omega⟩
    have j3 : cJ L K r z A3 := by rw [q3]; exact cJ_st j2 e1 g4 ⟨fun _ => dr, by omega, by omega, by omega⟩
    have j4 : cJ L K r z A4 := by rw [q4]; exact cJ_st j3 c1 g3 ⟨fun _ => by omega, by omega, by omega, by omega⟩
    refine hQ z1 A4 (fun a ha => by rw [ez, cw_s_a ha]) zs (fun a y1 y2 y3 y4 => by rw [q4, hz_s_a y3, q3, hz_s_a y4, q2, hz_s_a y2, q1, hz_s_a y1]) (fun i hi => m2 i (by omega)) (cJ_z j4 (fun b hb => by rw [ez, cw_s_a (cw_O_ne hb hO (by decide))])) ⟨by omega, fun i hi => ?_⟩ (fun i hi => ⟨m1 i (by omega), m2 i (by omega), m3 i (by omega), m4 i (by omega)⟩) ⟨m1x, m2x, by rw [m3x]; exact ev, m4x⟩
    by_cases ei : i = (z s 0).toNat
    · rw [ei, m2x, m3x, m4x]
      exact ⟨by omega, fun _ => Or.inr (by omega), by omega, by omega, kd d hd⟩
    · obtain ⟨y1, y2, y3, y4, y5⟩ := hB.2 i (by omega)
      rw [m2 i ei, m3 i ei, m4 i ei]
      exact ⟨y1, fun c => Or.inl (y2 c), y3, y4, kd _ y5⟩
  refine ⟨dr, fun c => ?_, fun c => fin 0 (by omega) (by omega) (by rw [if_pos c])⟩
  rcases hd with h | ⟨h1, h2, h3⟩
  · exact absurd h c
  · refine wq_c7_setOf dr (fun _ => ⟨c1, by omega, fin _ ?_ ?_ ?_⟩) h1
    · have := (hB.2 (d / 512).toNat (by omega)).2.2.1
      rw [q3, hz_s_a n34, q2, hz_s_a (Ne.symm n23), q1, hz_s_a (Ne.symm n13)]
      omega
    · have := (hB.2 (d / 512).toNat (by omega)).2.2.1
      rw [q3, hz_s_a n34, q2, hz_s_a (Ne.symm n23), q1, hz_s_a (Ne.symm n13)]
      omega
    · rw [if_neg c, q3, hz_s_a n34, q2, hz_s_a (Ne.symm n23), q1, hz_s_a (Ne.symm n13)]
theorem wv_c5_enterSet {t : Nat} {y2 y3 y5 : Int} (X : cq_X L K r w ρ R) (D : cq_D L K r ρ R z0 A0 P O E z A) (T : cl_T L K r z A (r R 2)) (S : sc_R K r R σ z A) (ht : t < 2) (hy2 : hz_rI y2) (hy3 : hz_rL y3) (hd : cq_d r z A (cw_g K (r (r R 3) 1) t) (P t) y5) {Q : Int → (Nat → Nat → Int) → (Nat → Nat → Int) → Prop} (h1 : ∀ (x : Int) (z' A' : Nat → Nat → Int), (0 ≤ x ∧ x < z' (cw_g K (r (r R 3) 1) t) 0) → y3 < 1000000000 → cq_D L K r ρ R z0 A0 P (cq_O O t x) E z' A' → cq_M K r z A z' A' R → z' (r R 2) = z (r R 2) → z' R = z R → A' (r (r R 2) 0) = A (r (r R 2) 0) → A' (r (r R 3) 0) = A (r (r R 3) 0) → ((x = sp_fd (σ (10 + t)) (z (r R 2) 4) (σ 1 t).toNat ∧ ¬ x = -1 ∧ σ (16 + t) x.toNat = y5 ∧ sc_R K r R σ z' A') ∨ (sp_fd (σ (10 + t)) (z (r R 2) 4) (σ 1 t).toNat = -1 ∧ σ 1 t < 10 ∧ x = σ 1 t ∧ sc_R K r R (sp_ns σ t (z (r R 2) 4) y5) z' A')) → Q x z' A') (h0 : ∀ z' A', cq_E L K r ρ R z0 A0 z' A' → z' R 0 = y2 → ((z' R 1 = 2 ∧ sp_fd (σ (10 + t)) (z (r R 2) 4) (σ 1 t).toNat = -1 ∧ 10 ≤ σ 1 t) ∨ (z' R 1 = 6 ∧ ¬ (sp_fd (σ (10 + t)) (z (r R 2) 4) (σ 1 t).toNat = -1 ∧ 10 ≤ σ 1 t) ∧ 1000000000 ≤ y3) ∨ (z' R 1 = 4 ∧ ¬ sp_fd (σ (10 + t)) (z (r R 2) 4) (σ 1 t).toNat = -1 ∧ ¬ 1000000000 ≤ y3 ∧ ¬ σ (16 + t) (sp_fd (σ (10 + t)) (z (r R 2) 4) (σ 1 t).toNat).toNat = y5)) → Q (-1) z' A') : wp_c5_enterSet L K z r A R (cw_g K (r (r R 3) 1) t) y2 y3 y5 Q := by
  obtain ⟨s1, s2, s3⟩ := cq_side X ht
  obtain ⟨x1, x2, -, x4, -, -, -, -, -, x10, x11, x12⟩ := id X
  obtain ⟨d1, d2, d3, d4, d5⟩ := id D
  have B := d3 t ht
  have o := cq_o3 X
  have t5 := T.2.2.2.2.1
  have dr : hz_rI y5 := by
    have := B.1
    rcases hd with h | ⟨h, h', -⟩
    · omega
    · omega
  have no : ∀ v : Int, (¬ v = 0 ∧ hz_rI v) → ((v = 2 ∧ sp_fd (σ (10 + t)) (z (r R 2) 4) (σ 1 t).toNat = -1 ∧ 10 ≤ σ 1 t) ∨ (v = 6 ∧ ¬ (sp_fd (σ (10 + t)) (z (r R 2) 4) (σ 1 t).toNat = -1 ∧ 10 ≤ σ 1 t) ∧ 1000000000 ≤ y3) ∨ (v = 4 ∧ ¬ sp_fd (σ (10 + t)) (z (r R 2) 4) (σ 1 t).toNat = -1 ∧ ¬ 1000000000 ≤ y3 ∧ ¬ σ (16 + t) (sp_fd (σ (10 + t)) (z (r R 2) 4) (σ 1 t).toNat).toNat = y5)) → wp_c5_refuse L K z r A R v y2 (fun _ z' => Q (-1) z' A) := fun v hv why => wv_c5_refuse X d1 d2 T hv hy2 (fun z' e e1 e0 => h0 z' A e e0 (by rw [e1]; exact why))
  obtain ⟨sa, sb⟩ := S.2.1 t ht
  have fdc : sp_fd (A (r (cw_g K (r (r R 3) 1) t) 1)) (z (r R 2) 4) (z (cw_g K (r (r R 3) 1) t) 0).toNat = sp_fd (σ (10 + t)) (z (r R 2) 4) (σ 1 t).toNat := by
    rw [sa]
    exact sp_fd_congr (fun i hi => (sb i (by omega)).1)
  refine ⟨x1, x2, s1, wv_c7_find s1 x12 d2.2 B.1 (by omega) (fun x xa xb fx => ⟨by have := B.1; omega, fun _ => ⟨hy3, fun c3 => ⟨by have := B.1; omega, fun _ => ⟨s1, (cq_ws X ht (by omega)).1, by have := B.1; have := (cq_ws X ht (k := 4) (by omega)).2.1; omega, (d2.2 _).1 (cq_ws X ht (by omega)).1 _, dr, fun eqd => h1 x z A ⟨xa, xb⟩ c3 (cq_D_mono D (fun _ _ h => h) (fun _ _ h => Or.inl h)) cq_M_refl rfl rfl rfl rfl (Or.inl ⟨fx.trans fdc, by omega, by rw [← (sb x.toNat (by omega)).2.2.2]; exact eqd, S⟩), fun ned => ⟨x1, no 4 (by decide) (Or.inr (Or.inr ⟨rfl, by rw [← fdc, ← fx]; omega, by omega, by rw [← fdc, ← fx, ← (sb x.toNat (by omega)).2.2.2]; exact ned⟩))⟩⟩, fun c => by omega⟩, fun lg => ⟨x1, no 6 (by decide) (Or.inr (Or.inl ⟨rfl, fun q => by rw [← fdc, ← fx] at q; omega, by omega⟩))⟩⟩, fun c => by omega⟩) (fun fx => ⟨by decide, fun c => absurd rfl c, fun _ => ⟨by have := B.1; omega, fun c2 => ⟨hy3, fun c3 => ⟨by decide, fun c => absurd rfl c, fun _ => ⟨x1, x2, s1, ?_⟩⟩, fun lg => ⟨x1, no 6 (by decide) (Or.inr (Or.inl ⟨rfl, fun q => by omega, by omega⟩))⟩⟩, fun mn => no 2 (by decide) (Or.inl ⟨rfl, by rw [← fdc]; exact fx, by omega⟩)⟩⟩)⟩
  refine wv_c7_begin s1 x10 x12 d2 B c2 (by omega) hd (fun z' A' o1 o2 o3 o4 o5 o6 o7 o8 => ?_)
  have aw : r (r R 2) 0 ≠ r (cw_g K (r (r R 3) 1) t) 1 ∧ r (r R 2) 0 ≠ r (cw_g K (r (r R 3) 1) t) 2 ∧ r (r R 2) 0 ≠ r (cw_g K (r (r R 3) 1) t) 3 ∧ r (r R 2) 0 ≠ r (cw_g K (r (r R 3) 1) t) 4 := by
    have f : ∀ k, (k = 1 ∨ k = 2 ∨ k = 3 ∨ k = 4 ∨ k = 6 ∨ k = 7) → r (r R 2) 0 ≠ r (cw_g K (r (r R 3) 1) t) k := fun k hk e => by
      have q := T.2.1
      rw [e] at q
      have := cw_A_ne q (cq_ws X ht hk).1
      omega
    exact ⟨f 1 (by omega), f 2 (by omega), f 3 (by omega), f 4 (by omega)⟩
  have mv : ∀ t', t' < 2 → z (cw_g K (r (r R 3) 1) t') 0 ≤ z' (cw_g K (r (r R 3) 1) t') 0 ∧ ∀ i : Nat, (i : Int) < z (cw_g K (r (r R 3) 1) t') 0 → 0 < A (r (cw_g K (r (r R 3) 1) t') 2) i → A' (r (cw_g K (r (r R 3) 1) t') 2) i = A (r (cw_g K (r (r R 3) 1) t') 2) i := by
    intro t' ht'
    by_cases e : t' = t
    · rw [e]
      exact ⟨by omega, fun i hi _ => o4 i hi⟩
    · refine ⟨by rw [o1 _ (cq_side_ne X ht' ht e)]; exact Int.le_refl _, fun i _ _ => ?_⟩
      rw [o3 _ ((cq_apart X ht (by omega)).2.2.2 t' 2 ht' (by omega) e) ((cq_apart X ht (by omega)).2.2.2 t' 2 ht' (by omega) e) ((cq_apart X ht (by omega)).2.2.2 t' 2 ht' (by omega) e) ((cq_apart X ht (by omega)).2.2.2 t' 2 ht' (by omega) e)]
  have ea : ∀ j, (j = 9 ∨ j = 10 ∨ j = 11 ∨ j = 12) → A' (r R j) = A (r R j) := fun j hj => o3 _ ((cq_apart X ht (by omega)).1 j hj) ((cq_apart X ht (by omega)).1 j hj) ((cq_apart X ht (by omega)).1 j hj) ((cq_apart X ht (by omega)).1 j hj)
  have er : ∀ i, i < 20 → A' (cw_g K (r (r R 3) 3) i) = A (cw_g K (r (r R 3) 3) i) := fun i hi => o3 _ ((cq_apart X ht (by omega)).2.1 i hi) ((cq_apart X ht (by omega)).2.1 i hi) ((cq_apart X ht (by omega)).2.1 i hi) ((cq_apart X ht (by omega)).2.1 i hi)
  have eg : A' (r (r R 3) 0) = A (r (r R 3) 0) := o3 _ (cq_apart X ht (by omega)).2.2.1 (cq_apart X ht (by omega)).2.2.1 (cq_apart X ht (by omega)).2.2.1 (cq_apart X ht (by omega)).2.2.1
  have B1 := B.1
  refine h1 (z (cw_g K (r (r R 3) 1) t) 0) z' A' (by omega) c3 ⟨cF_trans d1 ?_, o5, fun t' ht' => ?_, fun j hj => ?_, fun i j hi hj => by rw [er i hi]; exact d5 i j hi hj⟩ mv (o1 _ (Ne.symm (o.2.2.2.2 t ht).2.2)) (o1 _ (Ne.symm (o.2.2.2.2 t ht).1)) (o3 _ aw.1 aw.2.1 aw.2.2.1 aw.2.2.2) eg (Or.inr ⟨by rw [← fdc]; exact fx, by omega, sa, ?_⟩)
  · intro a ha
    have na : ∀ k, (k = 1 ∨ k = 2 ∨ k = 3 ∨ k = 4 ∨ k = 6 ∨ k = 7) → a ≠ r (cw_g K (r (r R 3) 1) t) k := fun k hk e => ha (by rw [e]; exact Or.inr (cq_ws X ht hk).2.2.2)
    exact ⟨o1 a (fun e => ha (by rw [e]; exact Or.inr s3)), o3 a (na 1 (by omega)) (na 2 (by omega)) (na 3 (by omega)) (na 4 (by omega))⟩
  · by_cases e : t' = t
    · subst e
      refine ⟨o6.1, fun i hi => ?_⟩
      obtain ⟨y1, y2, y3, y4, y5⟩ := o6.2 i hi
      refine ⟨y1, fun q => ?_, y3, y4, y5⟩
      rcases y2 q with q | q
      · exact Or.inl q
      · exact Or.inr ⟨rfl, q⟩
    · have hB := d3 t' ht'
      have f : ∀ k, (k = 1 ∨ k = 2 ∨ k = 3 ∨ k = 4 ∨ k = 6 ∨ k = 7) → A' (r (cw_g K (r (r R 3) 1) t') k) = A (r (cw_g K (r (r R 3) 1) t') k) := fun k hk => o3 _ ((cq_apart X ht (by omega)).2.2.2 t' k ht' hk e) ((cq_apart X ht (by omega)).2.2.2 t' k ht' hk e) ((cq_apart X ht (by omega)).2.2.2 t' k ht' hk e) ((cq_apart X ht (by omega)).2.2.2 t' k ht' hk e)
      have hz := o1 _ (cq_side_ne X ht' ht e)
      refine ⟨by rw [hz]; exact hB.1, fun i hi => ?_⟩
      rw [hz] at hi
      obtain ⟨y1, y2, y3, y4, y5⟩ := hB.2 i hi
      rw [f 2 (by omega), f 3 (by omega), f 4 (by omega)]
      exact ⟨y1, fun q => Or.inl (y2 q), y3, y4, cq_d_mono y5 (mv t' ht').1 (mv t' ht').2 (fun _ h => h)⟩
  · obtain ⟨y1, y2, y3⟩ := d4 j hj
    rw [ea 9 (by omega), ea 10 (by omega), ea 11 (by omega), ea 12 (by omega)]
    exact ⟨y1, cq_d_mono y2 (mv 0 (by omega)).1 (mv 0 (by omega)).2 (fun _ h => h), cq_d_mono y3 (mv 1 (by omega)).1 (mv 1 (by omega)).2 (fun _ h => h)⟩
  · refine sc_new X S ht o1 o2 eg ea (fun t' k ht' hk hne => o3 _ ((cq_apart X ht (by omega)).2.2.2 t' k ht' (by omega) hne) ((cq_apart X ht (by omega)).2.2.2 t' k ht' (by omega) hne) ((cq_apart X ht (by omega)).2.2.2 t' k ht' (by omega) hne) ((cq_apart X ht (by omega)).2.2.2 t' k ht' (by omega) hne)) o7 o8 B1.1 ?_
    rcases hd with hd | ⟨hd, hd', -⟩
    · exact Or.inl hd
    · exact Or.inr ⟨hd, hd'⟩
theorem wv_c5_endChoice {t : Nat} {y1 x m : Int} (X : cq_X L K r w ρ R) (D : cq_D L K r ρ R z0 A0 (cq_P P t x m) (cq_O O t x) E z A) (T : cl_T L K r z A (r R 2)) (S : sc_R K r R σ z A) (ht : t < 2) (hy1 : hz_rI y1) (hx : 0 ≤ x ∧ x < z (cw_g K (r (r R 3) 1) t) 0) (hm : 1 ≤ m ∧ m ≤ 400) {Q : Int → (Nat → Nat → Int) → (Nat → Nat → Int) → Prop} (h1 : m ≤ 4 → ∀ A' : Nat → Nat → Int, cq_D L K r ρ R z0 A0 P O E z A' → cq_M K r z A z A' R → A' (r (r R 2) 0) = A (r (r R 2) 0) → A' (r (r R 3) 0) = A (r (r R 3) 0) → ((σ (12 + t) x.toNat = 0 ∧ sc_R K r R (hz_s σ (12 + t) x m) z A') ∨ (¬ σ (12 + t) x.toNat = 0 ∧ σ (12 + t) x.toNat = m ∧ sc_R K r R σ z A')) → Q 1 z A') (h0 : ∀ z' A', cq_E L K r ρ R z0 A0 z' A' → z' R 0 = y1 → ((z' R 1 = 2 ∧ 4 < m) ∨ (z' R 1 = 5 ∧ ¬ 4 < m ∧ ¬ σ (12 + t) x.toNat = 0 ∧ ¬ σ (12 + t) x.toNat = m)) → Q 0 z' A') : wp_c5_endChoice L K z r A R y1 (cw_g K (r (r R 3) 1) t) x m Q := by
  obtain ⟨s1, s2, s3⟩ := cq_side X ht
  have x1 := X.1
  have x10 := X.2.2.2.2.2.2.2.2.2.1
  obtain ⟨d1, d2, d3, d4, d5⟩ := id D
  have B := d3 t ht
  have B1 := B.1
  obtain ⟨g1, g2, g3, g4⟩ := cq_ws X ht (k := 2) (by omega)
  have ap := cq_apart X ht (k := 2) (by omega)
  have mx := (B.2 x.toNat (by omega)).1
  have last : m ≤ 4 → ∀ A1 : Nat → Nat → Int, (∀ a, a ≠ r (cw_g K (r (r R 3) 1) t) 2 → A1 a = A a) → (∀ i : Nat, i ≠ x.toNat → A1 (r (cw_g K (r (r R 3) 1) t) 2) i = A (r (cw_g K (r (r R 3) 1) t) 2) i) → (0 < A (r (cw_g K (r (r R 3) 1) t) 2) x.toNat → A1 (r (cw_g K (r (r R 3) 1) t) 2) x.toNat = A (r (cw_g K (r (r R 3) 1) t) 2) x.toNat) → (0 ≤ A1 (r (cw_g K (r (r R 3) 1) t) 2) x.toNat ∧ A1 (r (cw_g K (r (r R 3) 1) t) 2) x.toNat ≤ 4) → cJ L K r z A1 → ((σ (12 + t) x.toNat = 0 ∧ A1 (r (cw_g K (r (r R 3) 1) t) 2) x.toNat = m) ∨ (¬ σ (12 + t) x.toNat = 0 ∧ A1 = A)) → wp_c5_endChoice_30 L K z r A1 R y1 (cw_g K (r (r R 3) 1) t) x m Q := by
    intro hm4 A1 o1 o2 o3 o4 j1 how
    obtain ⟨sa, sb⟩ := S.2.1 t ht
    have sx := (sb x.toNat (by omega)).2.1
    have F1 : cF ρ (cq_r r ρ R) z0 A0 z A1 := cF_trans d1 (fun a ha => ⟨rfl, o1 a (fun e => ha (by rw [e]; exact Or.inr g4))⟩)
    have aw : A1 (r (r R 2) 0) = A (r (r R 2) 0) := o1 _ (fun e => by
      have q := T.2.1
      rw [e] at q
      have := cw_A_ne q g1
      omega)
    have T1 : cl_T L K r z A1 (r R 2) := cl_T_keep T rfl aw
    refine ⟨s1, g1, by omega, by omega, by omega, fun c => ⟨Or.inr rfl, ?_⟩, fun c => ⟨x1, wv_c5_refuse X F1 j1 T1 (by decide) hy1 (fun z' e e1 e0 => ⟨by decide, fun _ => ⟨Or.inl rfl, h0 z' A1 e e0 (Or.inr ⟨e1, by omega, ?_⟩)⟩, fun q => absurd rfl q⟩)⟩⟩
    rotate_left
    · rcases how with ⟨h1', h2'⟩ | ⟨h1', h2'⟩
      · exact absurd h2' c
      · rw [h2', sx] at c
        exact ⟨h1', c⟩
    have mv : ∀ t', t' < 2 → ∀ i : Nat, (i : Int) < z (cw_g K (r (r R 3) 1) t') 0 → 0 < A (r (cw_g K (r (r R 3) 1) t') 2) i → A1 (r (cw_g K (r (r R 3) 1) t') 2) i = A (r (cw_g K (r (r R 3) 1) t') 2) i := by
      intro t' ht' i hi hp
      by_cases e : t' = t
      · subst e
        by_cases ei : i = x.toNat
        · subst ei; exact o3 hp
        · exact o2 i ei
      · rw [o1 _ (ap.2.2.2 t' 2 ht' (by omega) e)]
    have kd : ∀ t', t' < 2 → ∀ d, cq_d r z A (cw_g K (r (r R 3) 1) t') (cq_P P t x m t') d → cq_d r z A1 (cw_g K (r (r R 3) 1) t') (P t') d := by
      intro t' ht' d h
      rcases h with h | ⟨h1, h2, h3⟩
      · exact Or.inl h
      · refine Or.inr ⟨h1, h2, ?_⟩
        rcases h3 with (h3 | ⟨q1, q2, q3⟩) | h3
        · exact Or.inl h3
        · subst q1
          refine Or.inr ?_
          rw [q2, c]
          exact q3
        · refine Or.inr ?_
          rw [mv t' ht' _ (by omega) (by omega)]
          exact h3
    refine h1 hm4 A1 ⟨F1, j1, fun t' ht' => ⟨(d3 t' ht').1, fun i hi => ?_⟩, fun j hj => ?_, fun i j hi hj => by rw [o1 _ (ap.2.1 i hi)]; exact d5 i j hi hj⟩ (fun t' ht' => ⟨Int.le_refl _, mv t' ht'⟩) aw (o1 _ ap.2.2.1) ?_
    · obtain ⟨y1, y2, y3, y4, y5⟩ := (d3 t' ht').2 i hi
      have f : ∀ k, (k = 3 ∨ k = 4) → A1 (r (cw_g K (r (r R 3) 1) t') k) = A (r (cw_g K (r (r R 3) 1) t') k) := by
        intro k hk
        by_cases e : t' = t
        · subst e
          exact o1 _ (cg_ne (cq_ws X ht' (by omega)).2.2.1 g3 (fun e => by omega))
        · exact o1 _ (ap.2.2.2 t' k ht' (by omega) e)
      rw [f 3 (by omega), f 4 (by omega)]
      by_cases e : t' = t
      · subst e
        by_cases ei : i = x.toNat
        · subst ei
          exact ⟨o4, fun q => by omega, y3, y4, kd t' ht' _ y5⟩
        · rw [o2 i ei]
          refine ⟨y1, fun q => ?_, y3, y4, kd t' ht' _ y5⟩
          rcases y2 q with q | ⟨-, q⟩
          · exact q
          · omega
      · rw [o1 _ (ap.2.2.2 t' 2 ht' (by omega) e)]
        refine ⟨y1, fun q => ?_, y3, y4, kd t' ht' _ y5⟩
        rcases y2 q with q | ⟨q, -⟩
        · exact q
        · exact absurd q e
    · obtain ⟨y1, y2, y3⟩ := d4 j hj
      rw [o1 _ (ap.1 9 (by omega)), o1 _ (ap.1 10 (by omega)), o1 _ (ap.1 11 (by omega)), o1 _ (ap.1 12 (by omega))]
      exact ⟨y1, kd 0 (by omega) _ y2, kd 1 (by omega) _ y3⟩
    · rcases how with ⟨h1', h2'⟩ | ⟨h1', h2'⟩
      · exact Or.inl ⟨h1', sc_mv X S ht hx.1 (by omega) o1 o2 h2'⟩
      · refine Or.inr ⟨h1', ?_, by rw [h2']; exact S⟩
        rw [h2', sx] at c
        exact c
  refine ⟨by omega, fun c => ⟨s1, g1, by omega, by omega, fun q => last c A (fun _ _ => rfl) (fun _ _ => rfl) (fun _ => rfl) mx d2 (Or.inr ⟨by rw [← ((S.2.1 t ht).2 x.toNat (by have := (S.2.1 t ht).1; omega)).2.1]; exact q, rfl⟩), fun q => ⟨by omega, fun A1 e1 => ?_⟩⟩, fun c => ⟨x1, wv_c5_refuse X d1 d2 T (by decide) hy1 (fun z' e e1 e0 => ⟨Or.inl rfl, h0 z' A e e0 (Or.inl ⟨e1, by omega⟩)⟩)⟩⟩
  have sx : A1 (r (cw_g K (r (r R 3) 1) t) 2) x.toNat = m := by rw [e1, hz_s_same]
  exact last c A1 (fun a ha => by rw [e1, hz_s_a ha]) (fun i hi => by rw [e1, hz_s_i hi]) (fun h => by omega) (by rw [sx]; omega) (by rw [e1]; exact cJ_st d2 g1 (cg_dig x10 g3 s1 (by decide)) ⟨fun _ => by omega, by omega, by omega, by omega⟩) (Or.inl ⟨by rw [← ((S.2.1 t ht).2 x.toNat (by have := (S.2.1 t ht).1; omega)).2.1]; exact q, sx⟩)
theorem wv_c5_endDraw {y1 d m s : Int} (X : cq_X L K r w ρ R) (F : cF ρ (cq_r r ρ R) z0 A0 z A) (J : cJ L K r z A) (T : cl_T L K r z A (r R 2)) (hy1 : hz_rI y1) (hd : hz_rI d) (hm : hz_rL m) (hs : hz_rL s) {Q : Int → (Nat → Nat → Int) → Prop} (h1 : d ≤ 8 → ¬ 1000000000 ≤ m → s = m → Q 1 z) (h0 : ∀ z', cq_E L K r ρ R z0 A0 z' A → z' R 0 = y1 → ((z' R 1 = 2 ∧ 8 < d) ∨ (z' R 1 = 6 ∧ ¬ 8 < d ∧ 1000000000 ≤ m) ∨ (z' R 1 = 3 ∧ ¬ 8 < d ∧ ¬ 1000000000 ≤ m ∧ ¬ s = m)) → Q 0 z') : wp_c5_endDraw L K z r A R y1 d m s Q := by
  refine ⟨hd, fun c => ⟨hm, fun ml => ⟨hs, hm, fun eq => ⟨Or.inr rfl, h1 c (by omega) eq⟩, fun ne => ⟨X.1, wv_c5_refuse X F J T (by decide) hy1 (fun z' e e1 e0 => ⟨by decide, fun _ => ⟨Or.inl rfl, h0 z' e e0 (Or.inr (Or.inr ⟨e1, by omega, by omega, ne⟩))⟩, fun q => absurd rfl q⟩)⟩⟩, fun ml => ⟨X.1, wv_c5_refuse X F J T (by decide) hy1 (fun z' e e1 e0 => ⟨Or.inl rfl, h0 z' e e0 (Or.inr (Or.inl ⟨e1, by omega, by omega⟩))⟩)⟩⟩, fun c => ⟨X.1, wv_c5_refuse X F J T (by decide) hy1 (fun z' e e1 e0 => ⟨Or.inl rfl, h0 z' e e0 (Or.inl ⟨e1, by omega⟩)⟩)⟩⟩
end CS
