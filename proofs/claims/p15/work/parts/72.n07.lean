theorem wv_recall {z : Nat → Int} {B : Nat → Nat → Int} {d o p s : Nat} {w : Int} {Q : (Nat → Int) → (Nat → Nat → Int) → Prop} (hd : d < 2) (hz : z 33 = (d : Int)) (ho : z 45 = (o : Int)) (ho2 : o ≤ 20) (hf : z 35 = 0) (hw : 0 ≤ w ∧ w < 4001) (hp : p < 2) (hs : s < 10) (hsn : (s : Int) < B 26 (2 * d + p)) (hS : go_S B d) (hT : go_T B d o) (hk : ∀ j, j < o → (0 ≤ B 38 j ∧ B 38 j ≤ 126) ∧ (-1 ≤ B 40 j ∧ B 40 j ≤ 401))
    (hQ0 : ∀ z', mo_stop z z' → z' 35 = 4 → z' 36 = B 8 w.toNat → 0 ≤ B 29 (20 * d + (10 * p + s)) → ¬ pt B (20 * d + (10 * p + s)) (B 29 (20 * d + (10 * p + s))).toNat = ola B p o → Q z' B)
    (hQ1 : ∀ C, (0 ≤ B 29 (20 * d + (10 * p + s)) → B 29 (20 * d + (10 * p + s)) = go_c B p o) → (∀ k, k ≠ 29 → k ≠ 30 → k ≠ 31 → C k = B k) → (∀ i, C 29 i = if i = 20 * d + (10 * p + s) then go_c B p o else B 29 i) → (∀ i, (i < 20 * (20 * d + (10 * p + s)) ∨ 20 * (20 * d + (10 * p + s)) + 20 ≤ i) → C 30 i = B 30 i ∧ C 31 i = B 31 i) → (∀ q : Nat, (q : Int) < go_c B p o → (-1 ≤ C 30 (20 * (20 * d + (10 * p + s)) + q) ∧ C 30 (20 * (20 * d + (10 * p + s)) + q) ≤ 20) ∧ (-1 ≤ C 31 (20 * (20 * d + (10 * p + s)) + q) ∧ C 31 (20 * (20 * d + (10 * p + s)) + q) ≤ 401)) → (0 ≤ B 29 (20 * d + (10 * p + s)) → pt B (20 * d + (10 * p + s)) (B 29 (20 * d + (10 * p + s))).toNat = ola B p o ∧ C = B) → pt C (20 * d + (10 * p + s)) (go_c B p o).toNat = ola B p o → Q z C) : wp_recall z B ((10 * p + s : Nat) : Int) w Q := by
  obtain ⟨-, -, ⟨r0, r1⟩, hq⟩ := (hS p hp).2 s hsn
  intro x3 hx3
  have ex3 : x3 = ((20 * d + (10 * p + s) : Nat) : Int) := by omega
  have e3 : x3.toNat = 20 * d + (10 * p + s) := by omega
  have hf' : hz_rI (z 35) := by rw [hf]; exact ⟨by decide, by decide⟩
  have stop : 0 ≤ B 29 (20 * d + (10 * p + s)) → ¬ pt B (20 * d + (10 * p + s)) (B 29 (20 * d + (10 * p + s))).toNat = ola B p o → ∀ C, C = B → wp_recall_230 z C w Q := fun pos why C hC => by rw [hC]; exact wv_stop (by decide) hw hf (fun z' h c35 c36 => hQ0 z' h c35 c36 pos why)
  have rs : 0 ≤ B 29 (20 * d + (10 * p + s)) → pt B (20 * d + (10 * p + s)) (B 29 (20 * d + (10 * p + s))).toNat = ola B p o → B 29 (20 * d + (10 * p + s)) = go_c B p o := fun pos e => by
    have l1 := congrArg List.length e
    rw [pt_len] at l1
    have l2 := ola_len B p o
    omega
  have hdiv : ((10 * p + s : Nat) : Int).tdiv 10 = (p : Int) := by rw [Int.tdiv_eq_ediv_of_nonneg (by omega)]; omega
  -- met before
  have second : 0 ≤ B 29 (20 * d + (10 * p + s)) → wp_recall_24 z B ((10 * p + s : Nat) : Int) w x3 0 Q := by
    intro hpos
    intro P hP
    have key : ∀ (k j : Nat) (nn sm : Int), o - j = k → j ≤ o → nn = go_c B p j → (sm = 0 ∨ sm = 1) → (sm = 1 ↔ (go_c B p j ≤ B 29 (20 * d + (10 * p + s)) ∧ pt B (20 * d + (10 * p + s)) (go_c B p j).toNat = ola B p j)) → P B nn sm (j : Int) := by
      intro k
      induction k with
      | zero =>
        intro j nn sm hk' hj hnn hsm hI
        have ej : j = o := by omega
        subst ej
        have hr := go_c_range B p j
        refine hP B nn sm _ ⟨⟨by omega, by omega⟩, ⟨by omega, by omega⟩, fun _ => ⟨⟨by decide, by decide⟩, fun _ => ⟨⟨by omega, by omega⟩, fun s0 => stop hpos (fun e => ?_) B rfl, fun s1 => ⟨⟨by omega, by omega⟩, ⟨by omega, by omega⟩, by rw [e3]; exact ⟨by omega, by omega⟩, fun eq => ?_, fun ne => stop hpos (fun e => ne (by rw [e3, hnn, rs hpos e])) B rfl⟩⟩, fun c => absurd rfl c⟩, fun c => by omega⟩
        · have q := rs hpos e
          have q1 := hI.mpr ⟨by omega, by rw [← q]; exact e⟩
          omega
        rw [e3, hnn] at eq
        have hI1 := (hI.mp (by omega)).2
        refine hQ1 B (fun _ => eq.symm) (fun _ _ _ _ => rfl) (fun i => ?_) (fun _ _ => ⟨rfl, rfl⟩) (fun q hq' => hq q (by omega)) (fun _ => ⟨by rw [← eq]; exact hI1, rfl⟩) hI1
        split
        · next e => rw [e, eq]
        · rfl
      | succ k ih =>
        intro j nn sm hk' hj hnn hsm hI
        obtain ⟨hk1, hk2⟩ := hk j (by omega)
        have hr := go_c_range B p j
        have ej : ((j : Int)).toNat = j := by omega
        have next : ∀ nn' sm' : Int, nn' = go_c B p (j + 1) → (sm' = 0 ∨ sm' = 1) → (sm' = 1 ↔ (go_c B p (j + 1) ≤ B 29 (20 * d + (10 * p + s)) ∧ pt B (20 * d + (10 * p + s)) (go_c B p (j + 1)).toNat = ola B p (j + 1))) → wp_recall_192 z B ((10 * p + s : Nat) : Int) w x3 0 nn' sm' (j : Int) P Q := by
          intro nn' sm' h1 h2 h3 x hx
          have e : x = ((j + 1 : Nat) : Int) := by omega
          rw [e]
          exact ih (j + 1) nn' sm' (by omega) (by omega) h1 h2 h3
        refine hP B nn sm _ ⟨⟨by omega, by omega⟩, ⟨by omega, by omega⟩, fun c => by omega, fun _ => ⟨⟨by omega, by omega⟩, ?_⟩⟩
        rw [ej]
        refine ⟨⟨by omega, by omega⟩, fun dr => next nn sm (by rw [hnn]; simp only [go_c]; rw [if_neg (by simp [dr])]; omega) hsm (by
          simp only [go_c, ola]
          rw [if_neg (by simp [dr]), if_neg (by simp [dr]), Int.add_zero]
          exact hI), fun nd => ⟨⟨by omega, by omega⟩, ?_⟩⟩
        obtain ⟨p', s', hp', hs', hs10, hsm'⟩ := hT j (by omega) nd
        have hrs := (hS p' hp').1
        have hd2 : (B 39 j).tdiv 10 = (p' : Int) := by rw [hs', Int.tdiv_eq_ediv_of_nonneg (by omega)]; omega
        have hd3 : B 39 j / 10 = (p' : Int) := by rw [hs']; omega
        rw [hdiv, hd2]
        refine ⟨⟨by omega, by omega⟩, ⟨by omega, by omega⟩, ⟨by omega, by omega⟩, ⟨by omega, by omega⟩, fun eq => ?_, fun ne => next nn sm (by rw [hnn]; simp only [go_c]; rw [if_neg (by rw [hd3]; exact fun h => ne h.2)]; omega) hsm (by
          simp only [go_c, ola]
          rw [if_neg (by rw [hd3]; exact fun h => ne h.2), if_neg (by rw [hd3]; exact fun h => ne h.2), Int.add_zero]
          exact hI)⟩
        have oj : ola B p (j + 1) = (B 39 j, B 40 j) :: ola B p j := by
          simp only [ola]
          rw [if_pos ⟨nd, by rw [hd3]; exact eq⟩]
        have cj : nn + 1 = go_c B p (j + 1) := by
          rw [hnn]
          simp only [go_c]
          rw [if_pos ⟨nd, by rw [hd3]; exact eq⟩]
        have eqv : (go_c B p (j + 1) ≤ B 29 (20 * d + (10 * p + s)) ∧ pt B (20 * d + (10 * p + s)) (go_c B p (j + 1)).toNat = ola B p (j + 1)) ↔ (nn + 1 ≤ B 29 (20 * d + (10 * p + s)) ∧ (B 30 (20 * (20 * d + (10 * p + s)) + nn.toNat) = B 39 j ∧ B 31 (20 * (20 * d + (10 * p + s)) + nn.toNat) = B 40 j) ∧ pt B (20 * d + (10 * p + s)) nn.toNat = ola B p j) := by
          rw [← cj, oj, show (nn + 1).toNat = nn.toNat + 1 by omega]
          simp only [pt, List.cons.injEq, Prod.mk.injEq]
        have up : ∀ sm' : Int, (sm' = 0 ∨ sm' = 1) → (sm' = 1 ↔ (nn + 1 ≤ B 29 (20 * d + (10 * p + s)) ∧ (B 30 (20 * (20 * d + (10 * p + s)) + nn.toNat) = B 39 j ∧ B 31 (20 * (20 * d + (10 * p + s)) + nn.toNat) = B 40 j) ∧ pt B (20 * d + (10 * p + s)) nn.toNat = ola B p j)) → wp_recall_187 z B ((10 * p + s : Nat) : Int) w x3 0 nn (j : Int) sm' P Q := by
          intro sm' h2 h3 x5 hx5
          exact next x5 sm' (by rw [hx5]; exact cj) h2 (h3.trans eqv.symm)
        have no : ∀ {a : Prop}, ¬ a → ((0 : Int) = 1 ↔ a) := fun {a} h => ⟨fun q => by omega, fun q => absurd q h⟩
        rw [← hnn] at hI
        refine ⟨⟨by decide, by decide⟩, fun _ => ⟨⟨by omega, by omega⟩, fun s0 => up 0 (Or.inl rfl) (no (fun q => by have := hI.mpr ⟨by omega, q.2.2⟩; omega)), fun s1 => ⟨⟨by omega, by omega⟩, ⟨by omega, by omega⟩, by rw [e3]; exact ⟨by omega, by omega⟩, fun ge => up 0 (Or.inl rfl) (no (fun q => by rw [e3] at ge; omega)), fun lt => ?_⟩⟩, fun c => absurd rfl c⟩
        rw [e3] at lt
        have ein : (20 * x3 + nn).toNat = 20 * (20 * d + (10 * p + s)) + nn.toNat := by omega
        have hqq := hq nn.toNat (by omega)
        rw [ein]
        exact ⟨⟨by omega, by omega⟩, ⟨by omega, by omega⟩, ⟨by omega, by omega⟩, ⟨by omega, by omega⟩, fun n30 => up 0 (Or.inl rfl) (no (fun q => n30 q.2.1.1)), fun e30 => ⟨⟨by omega, by omega⟩, ⟨by omega, by omega⟩, ⟨by omega, by omega⟩, ⟨by omega, by omega⟩, fun n31 => up 0 (Or.inl rfl) (no (fun q => n31 q.2.1.2)), fun e31 => up 1 (Or.inr rfl) ⟨fun _ => ⟨by omega, ⟨e30, e31⟩, (hI.mp (by omega)).2⟩, fun _ => rfl⟩⟩⟩
    exact key _ 0 0 1 rfl (by omega) rfl (Or.inr rfl) ⟨fun _ => ⟨hpos, rfl⟩, fun _ => rfl⟩
  -- met for the first time
  have first : ¬ 0 ≤ B 29 (20 * d + (10 * p + s)) → wp_recall_24 z B ((10 * p + s : Nat) : Int) w x3 1 Q := by
    intro hneg
    intro P hP
    have key : ∀ (k j : Nat) (C : Nat → Nat → Int) (nn : Int), o - j = k → j ≤ o → nn = go_c B p j → (∀ k, k ≠ 30 → k ≠ 31 → C k = B k) → (∀ i, (i < 20 * (20 * d + (10 * p + s)) ∨ 20 * (20 * d + (10 * p + s)) + 20 ≤ i) → C 30 i = B 30 i ∧ C 31 i = B 31 i) → (∀ q : Nat, (q : Int) < nn → (-1 ≤ C 30 (20 * (20 * d + (10 * p + s)) + q) ∧ C 30 (20 * (20 * d + (10 * p + s)) + q) ≤ 20) ∧ (-1 ≤ C 31 (20 * (20 * d + (10 * p + s)) + q) ∧ C 31 (20 * (20 * d + (10 * p + s)) + q) ≤ 401)) → pt C (20 * d + (10 * p + s)) nn.toNat = ola B p j → P C nn 1 (j : Int) := by
      intro k
      induction k with
      | zero =>
        intro j C nn hk' hj hnn hC hout hin hpt
        have ej : j = o := by omega
        subst ej
        have hr := go_c_range B p j
        refine hP C nn 1 _ ⟨⟨by omega, by omega⟩, ⟨by omega, by omega⟩, fun _ => ⟨⟨by decide, by decide⟩, fun c => by omega, fun _ => ⟨⟨by omega, by omega⟩, fun D hD => ?_⟩⟩, fun c => by omega⟩
        refine hQ1 D (fun h => absurd h hneg) (fun k a b c => by rw [hD, hb_s_other a]; exact hC k b c) (fun i => ?_) (fun i hi => by rw [hD, hb_s_other (by decide), hb_s_other (by decide)]; exact hout i hi) (fun q hq' => by rw [hD, hb_s_other (by decide), hb_s_other (by decide)]; exact hin q (by omega)) (fun h => absurd h hneg) (by rw [← hnn, ← hpt]; exact pt_keep (fun i _ => by rw [hD, hb_s_other (by decide), hb_s_other (by decide)]; exact ⟨rfl, rfl⟩))
        rw [hD, lq_s_fun]
        unfold hz_u
        rw [e3, hnn, hC 29 (by decide) (by decide)]
      | succ k ih =>
        intro j C nn hk' hj hnn hC hout hin hpt
        obtain ⟨hk1, hk2⟩ := hk j (by omega)
        have hr := go_c_range B p j
        have ej : ((j : Int)).toNat = j := by omega
        have e38 : C 38 = B 38 := hC 38 (by decide) (by decide)
        have e39 : C 39 = B 39 := hC 39 (by decide) (by decide)
        have e40 : C 40 = B 40 := hC 40 (by decide) (by decide)
        have same : nn = go_c B p (j + 1) → ola B p (j + 1) = ola B p j → wp_recall_192 z C ((10 * p + s : Nat) : Int) w x3 1 nn 1 (j : Int) P Q := by
          intro h1 h2 x hx
          have e : x = ((j + 1 : Nat) : Int) := by omega
          rw [e]
          exact ih (j + 1) C nn (by omega) (by omega) h1 hC hout hin (by rw [h2]; exact hpt)
        refine hP C nn 1 _ ⟨⟨by omega, by omega⟩, ⟨by omega, by omega⟩, fun c => by omega, fun _ => ⟨⟨by omega, by omega⟩, ?_⟩⟩
        rw [ej, e38, e39]
        refine ⟨⟨by omega, by omega⟩, fun dr => same (by rw [hnn]; simp only [go_c]; rw [if_neg (by simp [dr])]; omega) (by simp only [ola]; rw [if_neg (by simp [dr])]), fun nd => ⟨⟨by omega, by omega⟩, ?_⟩⟩
        obtain ⟨p', s', hp', hs', hs10, hsm'⟩ := hT j (by omega) nd
        have hd2 : (B 39 j).tdiv 10 = (p' : Int) := by rw [hs', Int.tdiv_eq_ediv_of_nonneg (by omega)]; omega
        have hd3 : B 39 j / 10 = (p' : Int) := by rw [hs']; omega
        rw [hdiv, hd2]
        refine ⟨⟨by omega, by omega⟩, ⟨by omega, by omega⟩, ⟨by omega, by omega⟩, ⟨by omega, by omega⟩, fun eq => ⟨⟨by decide, by decide⟩, fun c => by omega, fun _ => ⟨⟨by omega, by omega⟩, ⟨by omega, by omega⟩, fun D hD => ⟨⟨by omega, by omega⟩, ⟨by omega, by omega⟩, fun E hE => ?_⟩⟩⟩, fun ne => same (by rw [hnn]; simp only [go_c]; rw [if_neg (by rw [hd3]; exact fun h => ne h.2)]; omega) (by simp only [ola]; rw [if_neg (by rw [hd3]; exact fun h => ne h.2)])⟩
        have ein : (20 * x3 + nn).toNat = 20 * (20 * d + (10 * p + s)) + nn.toNat := by omega
        have eD40 : D 40 j = B 40 j := by rw [hD, hb_s_other (by decide), e40]
        have e30 : ∀ i, E 30 i = if i = 20 * (20 * d + (10 * p + s)) + nn.toNat then B 39 j else C 30 i := fun i => by
          rw [hE, hb_s_other (by decide), hD, lq_s_fun]
          unfold hz_u
          rw [ein]
        have e31 : ∀ i, E 31 i = if i = 20 * (20 * d + (10 * p + s)) + nn.toNat then B 40 j else C 31 i := fun i => by
          rw [hE, lq_s_fun]
          unfold hz_u
          rw [ein, eD40, hD, hb_s_other (by decide)]
        intro x5 hx5 x hx
        have ex : x = ((j + 1 : Nat) : Int) := by omega
        rw [ex]
        refine ih (j + 1) E x5 (by omega) (by omega) ?_ (fun k a b => by rw [hE, hb_s_other b, hD, hb_s_other a]; exact hC k a b) (fun i hi => ?_) (fun q hq' => ?_) ?_
        · rw [hx5, hnn]
          simp only [go_c]
          rw [if_pos ⟨nd, by rw [hd3]; exact eq⟩]
        · rw [e30, e31, if_neg (by omega), if_neg (by omega)]
          exact hout i hi
        · rw [e30, e31]
          by_cases eq2 : q = nn.toNat
          · subst eq2
            rw [if_pos rfl, if_pos rfl]
            omega
          · rw [if_neg (by omega), if_neg (by omega)]
            exact hin q (by omega)
        · rw [hx5, show (nn + 1).toNat = nn.toNat + 1 by omega]
          simp only [pt, ola]
          rw [if_pos ⟨nd, by rw [hd3]; exact eq⟩, e30, e31, if_pos rfl, if_pos rfl, ← hpt]
          congr 1
          exact pt_keep (fun i hi => by rw [e30, e31, if_neg (by omega), if_neg (by omega)]; exact ⟨rfl, rfl⟩)
    exact key _ 0 B 0 rfl (by omega) rfl (fun _ _ _ => rfl) (fun _ _ => ⟨rfl, rfl⟩) (fun q hq' => by omega) rfl
  exact ⟨⟨by omega, by omega⟩, by rw [e3]; exact ⟨by omega, by omega⟩, fun c => second (by rw [e3] at c; exact c), fun c => first (by rw [e3] at c; exact c)⟩
theorem wv_end {z : Nat → Int} {B : Nat → Nat → Int} {d o e0 f : Nat} {y1 y3 : Int} {Q : (Nat → Nat → Int) → Prop} (hd : d < 2) (hz : z 33 = (d : Int)) (ho : z 45 = (o : Int)) (ho2 : o ≤ 20) (he : B 14 d = (e0 : Int)) (he2 : e0 < 400) (hf : B 24 d = (f : Int)) (hf2 : f ≤ 20 * e0) (hk : ∀ j, j < o → 0 ≤ B 38 j ∧ B 38 j ≤ 126)
    (hy1 : 1 ≤ y1 ∧ y1 ≤ 1000000000) (hy3 : 1 ≤ y3 ∧ y3 ≤ 1000000000) (h47 : -9999 ≤ z 47 ∧ z 47 ≤ 9999) (h48 : 1 ≤ z 48 ∧ z 48 ≤ 9999)
    (hQ : ∀ (C : Nat → Nat → Int) (t b : Int), t = sp_q (y1 * z 47) (sp_g (y1 * z 47) (y3 * z 48)) → b = sp_q (y3 * z 48) (sp_g (y1 * z 47) (y3 * z 48)) → (∀ k, k ≠ 14 → k ≠ 17 → k ≠ 18 → k ≠ 20 → k ≠ 21 → k ≠ 22 → k ≠ 23 → k ≠ 24 → C k = B k) → (∀ i, C 14 i = if i = d then (e0 : Int) + 1 else B 14 i) → C 24 d = (f : Int) + go_a B o → (-10000000000000 ≤ t ∧ t ≤ 10000000000000) → (1 ≤ b ∧ b ≤ 10000000000000) →
      (∀ i, C 17 i = if i = 400 * d + e0 then t else B 17 i) → (∀ i, C 18 i = if i = 400 * d + e0 then b else B 18 i) → (∀ i, C 20 i = if i = 400 * d + e0 then ((8000 * d + f : Nat) : Int) else B 20 i) → (∀ i, C 21 i = if i = 400 * d + e0 then ((go_a B o : Nat) : Int) else B 21 i) →
      (∀ w : Nat, (w < 8000 * d + f ∨ 8000 * d + f + go_a B o ≤ w) → C 22 w = B 22 w ∧ C 23 w = B 23 w) → (∀ q, q < go_a B o → ∃ j, j < o ∧ B 38 j ≠ 63 ∧ go_a B j = q ∧ C 22 (8000 * d + f + q) = B 39 j ∧ C 23 (8000 * d + f + q) = B 40 j) → Q C) : wp_end z B y1 y3 Q := by
  have ed : (z 33).toNat = d := by omega
  refine ⟨⟨by omega, by omega⟩, fun x5 hx5 x6 hx6 x8 hx8 => ?_⟩
  rw [ed, he] at hx5
  have ex5 : x5.toNat = 400 * d + e0 := by omega
  have b6 : -10000000000000 ≤ x6 ∧ x6 ≤ 10000000000000 := by
    have k1 : y1 * z 47 ≤ y1 * 9999 := Int.mul_le_mul_of_nonneg_left h47.2 (by omega)
    have k2 : y1 * (-9999) ≤ y1 * z 47 := Int.mul_le_mul_of_nonneg_left h47.1 (by omega)
    omega
  have b8 : 1 ≤ x8 ∧ x8 ≤ 10000000000000 := by
    have k1 : y3 * z 48 ≤ y3 * 9999 := Int.mul_le_mul_of_nonneg_left h48.2 (by omega)
    have k2 : y3 * 1 ≤ y3 * z 48 := Int.mul_le_mul_of_nonneg_left h48.1 (by omega)
    omega
  refine wv_divisor (by omega) (by omega) (fun r er r1 ra rb => ?_)
  have rr := Int.le_of_dvd (by omega) rb
  obtain ⟨a1, -⟩ := mo_divn r1 ra
  obtain ⟨c1, c2⟩ := mo_divn r1 rb
  have c3 := c2 b8.1
  refine ⟨by omega, ⟨by omega, by omega⟩, ⟨by omega, by omega⟩, ⟨by omega, by omega⟩, fun C13 h13 => ⟨by omega, ⟨by omega, by omega⟩, ⟨by omega, by omega⟩, ⟨by omega, by omega⟩, fun C14 h14 => ⟨⟨by omega, by omega⟩, ⟨by omega, by omega⟩, fun C15 h15 => ?_⟩⟩⟩
  have e24 : C14 24 d = (f : Int) := by rw [h14, hb_s_other (by decide), h13, hb_s_other (by decide)]; exact hf
  rw [ed, e24] at h15
  have base : ∀ k, k ≠ 17 → k ≠ 18 → k ≠ 20 → C15 k = B k := fun k a b c => by rw [h15, hb_s_other c, h14, hb_s_other b, h13, hb_s_other a]
  have f17 : ∀ i, C15 17 i = if i = 400 * d + e0 then x6.tdiv r else B 17 i := fun i => by
    rw [h15, hb_s_other (by decide), h14, hb_s_other (by decide), h13, lq_s_fun]
    unfold hz_u
    rw [ex5]
  have f18 : ∀ i, C15 18 i = if i = 400 * d + e0 then x8.tdiv r else B 18 i := fun i => by
    rw [h15, hb_s_other (by decide), h14, lq_s_fun]
    unfold hz_u
    rw [ex5, h13, hb_s_other (by decide)]
  have f20 : ∀ i, C15 20 i = if i = 400 * d + e0 then ((8000 * d + f : Nat) : Int) else B 20 i := fun i => by
    rw [h15, lq_s_fun]
    unfold hz_u
    rw [ex5, h14, hb_s_other (by decide), h13, hb_s_other (by decide)]
    split <;> (try rfl)
    omega
  intro P hP
  have key : ∀ (k j : Nat) (C : Nat → Nat → Int), o - j = k → j ≤ o → (∀ k, k ≠ 22 → k ≠ 23 → k ≠ 24 → C k = C15 k) → C 24 d = (f : Int) + go_a B j → (∀ w : Nat, (w < 8000 * d + f ∨ 8000 * d + f + go_a B j ≤ w) → C 22 w = B 22 w ∧ C 23 w = B 23 w) → (∀ q, q < go_a B j → ∃ i, i < j ∧ B 38 i ≠ 63 ∧ go_a B i = q ∧ C 22 (8000 * d + f + q) = B 39 i ∧ C 23 (8000 * d + f + q) = B 40 i) → P C (j : Int) := by
    intro k
    induction k with
    | zero =>
      intro j C hk' hj hC h24 hout hin
      have ej : j = o := by omega
      subst ej
      have hle := go_a_le B j
      refine hP C _ ⟨⟨by omega, by omega⟩, ⟨by omega, by omega⟩, fun _ => ⟨⟨by omega, by omega⟩, ⟨by omega, by omega⟩, ⟨by omega, by omega⟩, fun C3 h3 => ⟨⟨by omega, by omega⟩, ⟨by omega, by omega⟩, fun C4 h4 => ?_⟩⟩, fun c => by omega⟩
      have e20 : C 20 (400 * d + e0) = ((8000 * d + f : Nat) : Int) := by rw [hC 20 (by decide) (by decide) (by decide), f20, if_pos rfl]
      rw [ed, ex5, h24, e20] at h3
      have e14 : C3 14 d = (e0 : Int) := by rw [h3, hb_s_other (by decide), hC 14 (by decide) (by decide) (by decide), base 14 (by decide) (by decide) (by decide)]; exact he
      rw [ed, e14] at h4
      refine hQ C4 (x6.tdiv r) (x8.tdiv r) (by rw [← hx6, ← hx8, ← er]; unfold sp_q; rw [if_neg (by omega)]) (by rw [← hx6, ← hx8, ← er]; unfold sp_q; rw [if_neg (by omega)]) (fun k a b c e g h i l => ?_) (fun i => ?_) ?_ (by omega) (by omega) (fun i => ?_) (fun i => ?_) (fun i => ?_) (fun i => ?_) (fun w hw => ?_) (fun q hq => ?_)
      · rw [h4, hb_s_other a, h3, hb_s_other g, hC k h i l, base k b c e]
      · rw [h4, lq_s_fun]
        unfold hz_u
        rw [ed, h3, hb_s_other (by decide), hC 14 (by decide) (by decide) (by decide), base 14 (by decide) (by decide) (by decide)]
      · rw [h4, hb_s_other (by decide), h3, hb_s_other (by decide)]
        exact h24
      · rw [h4, hb_s_other (by decide), h3, hb_s_other (by decide), hC 17 (by decide) (by decide) (by decide)]
        exact f17 i
      · rw [h4, hb_s_other (by decide), h3, hb_s_other (by decide), hC 18 (by decide) (by decide) (by decide)]
        exact f18 i
      · rw [h4, hb_s_other (by decide), h3, hb_s_other (by decide), hC 20 (by decide) (by decide) (by decide)]
        exact f20 i
      · rw [h4, hb_s_other (by decide), h3, lq_s_fun]
        unfold hz_u
        rw [ex5, hC 21 (by decide) (by decide) (by decide), base 21 (by decide) (by decide) (by decide)]
        split <;> (try rfl)
        omega
      · rw [h4, hb_s_other (by decide), hb_s_other (by decide), h3, hb_s_other (by decide), hb_s_other (by decide)]
        exact hout w hw
      · rw [h4, hb_s_other (by decide), hb_s_other (by decide), h3, hb_s_other (by decide), hb_s_other (by decide)]
        exact hin q hq
    | succ k ih =>
      intro j C hk' hj hC h24 hout hin
      have hle := go_a_le B j
      have ej : ((j : Int)).toNat = j := by omega
      have e38 : C 38 = B 38 := by rw [hC 38 (by decide) (by decide) (by decide), base 38 (by decide) (by decide) (by decide)]
      have e39 : C 39 = B 39 := by rw [hC 39 (by decide) (by decide) (by decide), base 39 (by decide) (by decide) (by decide)]
      have e40 : C 40 = B 40 := by rw [hC 40 (by decide) (by decide) (by decide), base 40 (by decide) (by decide) (by decide)]
      have hkj := hk j (by omega)
      refine hP C _ ⟨⟨by omega, by omega⟩, ⟨by omega, by omega⟩, fun c => by omega, fun _ => ⟨⟨by omega, by omega⟩, ?_⟩⟩
      rw [ej, e38, e39, ed, h24]
      refine ⟨⟨by omega, by omega⟩, fun dr x hx => ?_, fun nd => ⟨⟨by omega, by omega⟩, ⟨by omega, by omega⟩, ⟨by omega, by omega⟩, fun C6 h6 => ⟨⟨by omega, by omega⟩, ⟨by omega, by omega⟩, ?_⟩⟩⟩
      · have ex : x = ((j + 1 : Nat) : Int) := by omega
        have ea : go_a B (j + 1) = go_a B j := by
          simp only [go_a]
          rw [if_neg (by simp [dr])]
          rfl
        rw [ex]
        refine ih (j + 1) C (by omega) (by omega) hC (by rw [ea]; exact h24) (by rw [ea]; exact hout) (fun q hq => ?_)
        rw [ea] at hq
        obtain ⟨i, i1, i2⟩ := hin q hq
        exact ⟨i, by omega, i2⟩
      · have ea : go_a B (j + 1) = go_a B j + 1 := by
          simp only [go_a]
          rw [if_pos nd]
        have g24 : C6 24 d = (f : Int) + go_a B j := by rw [h6, hb_s_other (by decide)]; exact h24
        have g40 : C6 40 = B 40 := by rw [h6, hb_s_other (by decide)]; exact e40
        rw [g24, g40]
        refine ⟨⟨by omega, by omega⟩, fun C7 h7 => ⟨⟨by omega, by omega⟩, ⟨by omega, by omega⟩, fun C8 h8 x hx => ?_⟩⟩
        have ei : (8000 * z 33 + ((f : Int) + go_a B j)).toNat = 8000 * d + f + go_a B j := by omega
        have g22 : ∀ w, C8 22 w = if w = 8000 * d + f + go_a B j then B 39 j else C 22 w := fun w => by
          rw [h8, hb_s_other (by decide), h7, hb_s_other (by decide), h6, lq_s_fun]
          unfold hz_u
          rw [ei]
        have g23 : ∀ w, C8 23 w = if w = 8000 * d + f + go_a B j then B 40 j else C 23 w := fun w => by
          rw [h8, hb_s_other (by decide), h7, lq_s_fun]
          unfold hz_u
          rw [ei, h6, hb_s_other (by decide)]
        have k24 : C8 24 d = (f : Int) + (go_a B (j + 1) : Nat) := by
          have q : C7 24 d = (f : Int) + go_a B j := by rw [h7, hb_s_other (by decide)]; exact g24
          rw [h8, lq_s_fun]
          unfold hz_u
          rw [ed, if_pos rfl, q, ea]
          omega
        have ex : x = ((j + 1 : Nat) : Int) := by omega
        rw [ex]
        refine ih (j + 1) C8 (by omega) (by omega) (fun k a b c => by rw [h8, hb_s_other c, h7, hb_s_other b, h6, hb_s_other a]; exact hC k a b c) k24 (fun w hw => ?_) (fun q hq => ?_)
        · rw [g22, g23, if_neg (by omega), if_neg (by omega)]
          exact hout w (by omega)
        · rw [ea] at hq
          by_cases eq : q = go_a B j
          · refine ⟨j, by omega, nd, eq.symm, ?_, ?_⟩
            · rw [g22, if_pos (by omega)]
            · rw [g23, if_pos (by omega)]
          · obtain ⟨i, i1, i2, i3, i4, i5⟩ := hin q (by omega)
            refine ⟨i, by omega, i2, i3, ?_, ?_⟩
            · rw [g22, if_neg (by omega)]
              exact i4
            · rw [g23, if_neg (by omega)]
              exact i5
  refine key _ 0 C15 rfl (by omega) (fun _ _ _ _ => rfl) ?_ (fun w _ => ?_) (fun q hq => by simp [go_a] at hq)
  · rw [base 24 (by decide) (by decide) (by decide), hf]
    simp [go_a]
  · rw [base 22 (by decide) (by decide) (by decide), base 23 (by decide) (by decide) (by decide)]
    exact ⟨rfl, rfl⟩
