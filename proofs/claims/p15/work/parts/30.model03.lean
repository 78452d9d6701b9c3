-- 52.bad
/-- the words, none behind the last; what is wanted next is met: the grammar as a stack -/
noncomputable def ma_t (A : Nat → Nat → Int) (n : Nat) : Nat → Int := fun k => if k < n then A 7 k else 2
noncomputable def ma_F (t : Nat → Int) : Nat → Nat → List Int → Prop
  | 0, _, _ => False
  | _ + 1, _, [] => True
  | f + 1, k, w :: st =>
    if w = 300 then (t k = 91 ∧ ma_F t f (k + 1) (301 :: 93 :: st)) ∨ (t k = 63 ∧ ma_F t f (k + 1) (40 :: 303 :: 304 :: 41 :: st)) ∨ ((t k = 65 ∨ t k = 66) ∧ ma_F t f (k + 1) (1 :: 40 :: 300 :: 305 :: 41 :: st))
    else if w = 301 then ma_F t f (if t k = 45 then k + 1 else k) (1 :: 302 :: st)
    else if w = 302 then (if t k = 47 then ma_F t f (k + 1) (1 :: st) else ma_F t f k st)
    else if w = 303 then ma_F t f k (301 :: 58 :: 300 :: st)
    else if w = 304 then (if t k = 44 then ma_F t f (k + 1) (303 :: 304 :: st) else ma_F t f k st)
    else if w = 305 then (if t k = 44 then ma_F t f (k + 1) (300 :: 305 :: st) else ma_F t f k st)
    else t k = w ∧ ma_F t f (k + 1) st
noncomputable def ma_A (t : Nat → Int) (k : Nat) (st : List Int) : Prop := ∃ f, ma_F t f k st
theorem ma_nil (t : Nat → Int) (k : Nat) : ma_A t k [] := ⟨1, by simp [ma_F]⟩
theorem ma_term {t : Nat → Int} {k : Nat} {w : Int} {st : List Int} (hw : w < 300) : ma_A t k (w :: st) ↔ t k = w ∧ ma_A t (k + 1) st := by
  constructor
  · intro ⟨f, h⟩
    cases f with
    | zero => exact h.elim
    | succ f =>
      rw [ma_F, if_neg (by omega), if_neg (by omega), if_neg (by omega), if_neg (by omega), if_neg (by omega), if_neg (by omega)] at h
      exact ⟨h.1, f, h.2⟩
  · intro ⟨h1, f, h2⟩
    refine ⟨f + 1, ?_⟩
    rw [ma_F, if_neg (by omega), if_neg (by omega), if_neg (by omega), if_neg (by omega), if_neg (by omega), if_neg (by omega)]
    exact ⟨h1, h2⟩
theorem ma_node {t : Nat → Int} {k : Nat} {st : List Int} : ma_A t k (300 :: st) ↔ (t k = 91 ∧ ma_A t (k + 1) (301 :: 93 :: st)) ∨ (t k = 63 ∧ ma_A t (k + 1) (40 :: 303 :: 304 :: 41 :: st)) ∨ ((t k = 65 ∨ t k = 66) ∧ ma_A t (k + 1) (1 :: 40 :: 300 :: 305 :: 41 :: st)) := by
  constructor
  · intro ⟨f, h⟩
    cases f with
    | zero => exact h.elim
    | succ f =>
      rw [ma_F, if_pos rfl] at h
      rcases h with ⟨a, b⟩ | ⟨a, b⟩ | ⟨a, b⟩
      · exact Or.inl ⟨a, f, b⟩
      · exact Or.inr (Or.inl ⟨a, f, b⟩)
      · exact Or.inr (Or.inr ⟨a, f, b⟩)
  · intro h
    rcases h with ⟨a, f, b⟩ | ⟨a, f, b⟩ | ⟨a, f, b⟩ <;> refine ⟨f + 1, ?_⟩ <;> rw [ma_F, if_pos rfl]
    · exact Or.inl ⟨a, b⟩
    · exact Or.inr (Or.inl ⟨a, b⟩)
    · exact Or.inr (Or.inr ⟨a, b⟩)
theorem ma_frac {t : Nat → Int} {k : Nat} {st : List Int} : ma_A t k (301 :: st) ↔ ma_A t (if t k = 45 then k + 1 else k) (1 :: 302 :: st) := by
  constructor
  · intro ⟨f, h⟩
    cases f with
    | zero => exact h.elim
    | succ f =>
      rw [ma_F, if_neg (by decide), if_pos rfl] at h
      exact ⟨f, h⟩
  · intro ⟨f, h⟩
    refine ⟨f + 1, ?_⟩
    rw [ma_F, if_neg (by decide), if_pos rfl]
    exact h
theorem ma_line {t : Nat → Int} {k : Nat} {st : List Int} : ma_A t k (302 :: st) ↔ (if t k = 47 then ma_A t (k + 1) (1 :: st) else ma_A t k st) := by
  constructor
  · intro ⟨f, h⟩
    cases f with
    | zero => exact h.elim
    | succ f =>
      rw [ma_F, if_neg (by decide), if_neg (by decide), if_pos rfl] at h
      split at h
      · next c => rw [if_pos c]; exact ⟨f, h⟩
      · next c => rw [if_neg c]; exact ⟨f, h⟩
  · intro h
    split at h
    · next c =>
      obtain ⟨f, h⟩ := h
      refine ⟨f + 1, ?_⟩
      rw [ma_F, if_neg (by decide), if_neg (by decide), if_pos rfl, if_pos c]
      exact h
    · next c =>
      obtain ⟨f, h⟩ := h
      refine ⟨f + 1, ?_⟩
      rw [ma_F, if_neg (by decide), if_neg (by decide), if_pos rfl, if_neg c]
      exact h
theorem ma_way {t : Nat → Int} {k : Nat} {st : List Int} : ma_A t k (303 :: st) ↔ ma_A t k (301 :: 58 :: 300 :: st) := by
  constructor
  · intro ⟨f, h⟩
    cases f with
    | zero => exact h.elim
    | succ f =>
      rw [ma_F, if_neg (by decide), if_neg (by decide), if_neg (by decide), if_pos rfl] at h
      exact ⟨f, h⟩
  · intro ⟨f, h⟩
    refine ⟨f + 1, ?_⟩
    rw [ma_F, if_neg (by decide), if_neg (by decide), if_neg (by decide), if_pos rfl]
    exact h
/-- more ways, more moves: 304 and 303, 305 and 300 -/
theorem ma_more {t : Nat → Int} {k : Nat} {st : List Int} {w v : Int} (hw : (w = 304 ∧ v = 303) ∨ (w = 305 ∧ v = 300)) : ma_A t k (w :: st) ↔ (if t k = 44 then ma_A t (k + 1) (v :: w :: st) else ma_A t k st) := by
  have e : ∀ f, ma_F t (f + 1) k (w :: st) = (if t k = 44 then ma_F t f (k + 1) (v :: w :: st) else ma_F t f k st) := fun f => by
    rcases hw with ⟨a, b⟩ | ⟨a, b⟩ <;> subst a <;> subst b
    · rw [ma_F, if_neg (by decide), if_neg (by decide), if_neg (by decide), if_neg (by decide), if_pos rfl]
    · rw [ma_F, if_neg (by decide), if_neg (by decide), if_neg (by decide), if_neg (by decide), if_neg (by decide), if_pos rfl]
  constructor
  · intro ⟨f, h⟩
    cases f with
    | zero => exact h.elim
    | succ f =>
      rw [e] at h
      split at h
      · next c => rw [if_pos c]; exact ⟨f, h⟩
      · next c => rw [if_neg c]; exact ⟨f, h⟩
  · intro h
    split at h
    · next c =>
      obtain ⟨f, h⟩ := h
      exact ⟨f + 1, by rw [e, if_pos c]; exact h⟩
    · next c =>
      obtain ⟨f, h⟩ := h
      exact ⟨f + 1, by rw [e, if_neg c]; exact h⟩
/-- the stack in its array -/
noncomputable def mb_L (A : Nat → Nat → Int) : List Int → Prop
  | [] => True
  | w :: st => A 11 st.length = w ∧ mb_L A st
noncomputable def mb_ok : List Int → Prop
  | [] => False
  | [w] => w = 0
  | w :: v :: st => (w = 93 ∨ w = 41 ∨ w = 40 ∨ w = 58 ∨ w = 1 ∨ (300 ≤ w ∧ w ≤ 305)) ∧ mb_ok (v :: st)
noncomputable def mb_e (w : Int) : Int := if w = 301 then 2 else if w = 303 then 4 else 1
noncomputable def mb_E : List Int → Int
  | [] => 0
  | w :: st => mb_e w + mb_E st
noncomputable def mb_m (w : Int) : Nat := if w = 301 then 4 else if w = 303 then 7 else if w = 302 then 2 else 1
noncomputable def mb_M : List Int → Nat
  | [] => 0
  | w :: st => mb_m w + mb_M st
theorem mb_E_len (st : List Int) : (st.length : Int) ≤ mb_E st := by
  induction st with
  | nil => exact Int.le_refl _
  | cons w st ih =>
    simp only [mb_E, List.length_cons]
    have : 1 ≤ mb_e w := by unfold mb_e; split <;> (try split) <;> omega
    omega
theorem mb_L_keep {A B : Nat → Nat → Int} {st : List Int} (h : ∀ i, i < st.length → B 11 i = A 11 i) (hL : mb_L A st) : mb_L B st := by
  induction st with
  | nil => trivial
  | cons w st ih =>
    refine ⟨by rw [h st.length (by simp)]; exact hL.1, ih (fun i hi => h i (by simp; omega)) hL.2⟩
theorem mb_ok_tail {w : Int} {st : List Int} (h : mb_ok (w :: st)) (hs : st ≠ []) : mb_ok st := by
  cases st with
  | nil => exact absurd rfl hs
  | cons v st => exact h.2
theorem mb_ok_cons {w : Int} {st : List Int} (hw : w = 93 ∨ w = 41 ∨ w = 40 ∨ w = 58 ∨ w = 1 ∨ (300 ≤ w ∧ w ≤ 305)) (h : mb_ok st) : mb_ok (w :: st) := by
  cases st with
  | nil => exact h.elim
  | cons v st => exact ⟨hw, h⟩
theorem wq_want {z : Nat → Int} {A : Nat → Nat → Int} {w : Int} {st : List Int} {Q : (Nat → Int) → (Nat → Nat → Int) → Prop} (hlen : st.length < 16100) (hL : mb_L A st) (hQ : ∀ B, lq_K 11 A B → mb_L B (w :: st) → Q (lp_U z 12 ((w :: st).length : Int)) B) : wp_want (lp_U z 12 (st.length : Int)) A w Q := by
  rw [wp_want, lp_U_same]
  refine ⟨⟨by omega, by omega⟩, fun B hB z2 hz2 => ?_⟩
  rw [lp_U_U] at hz2
  have e : (st.length : Int) + 1 = ((w :: st).length : Int) := by simp
  rw [hz2, e]
  have e2 : ((st.length : Int)).toNat = st.length := by omega
  refine hQ B (by rw [hB]; exact lq_K_s _ _ _ _) ⟨?_, mb_L_keep (fun i hi => ?_) hL⟩
  · rw [hB, lq_s_fun]
    unfold hz_u
    rw [e2, if_pos rfl]
  · rw [hB, lq_s_fun]
    unfold hz_u
    rw [e2, if_neg (by omega)]
theorem wq_bad {z : Nat → Int} {A : Nat → Nat → Int} {n : Nat} {Q : Int → (Nat → Int) → (Nat → Nat → Int) → Prop} (hT : mc_T A n)
    (hQ : ∀ (r : Int) (z' : Nat → Int) (B : Nat → Nat → Int), (∀ q, q ≠ 12 → z' q = z q) → lq_K 11 A B → ((r = -1 ∧ ma_A (ma_t A n) 0 [300, 0]) ∨ (0 ≤ r ∧ r < n)) → Q r z' B) : wp_bad z A Q := by
  obtain ⟨n1, n2, hK, hmid, hlast⟩ := hT
  intro z0 hz0
  have hz0' : z0 = lp_U z 12 (([] : List Int).length : Int) := hz0
  rw [hz0']
  refine wq_want (by decide) trivial (fun B1 hK1 hL1 => wq_want (by decide) hL1 (fun B2 hK2 hL2 => ?_))
  intro P hP
  have key : ∀ (m k : Nat) (st : List Int) (B : Nat → Nat → Int), 16 * (n - k) + mb_M st = m → ((st = [] ∧ k ≤ n) ∨ (mb_ok st ∧ k + 1 ≤ n)) → lq_K 11 A B → mb_L B st → mb_E st ≤ 2 + 4 * k + (if st.head? = some 40 then 2 else 0) → (ma_A (ma_t A n) k st → ma_A (ma_t A n) 0 [300, 0]) → P (lp_U z 12 (st.length : Int)) B (k : Int) := by
    intro m
    induction m using Nat.strongRecOn with
    | ind m ih =>
      intro k st B hm hst hKB hLB hE hA
      cases st with
      | nil =>
        refine hP _ B _ ?_
        rw [lp_U_same]
        exact ⟨⟨by decide, by decide⟩, fun _ => hQ _ _ B (fun q hq => lp_U_other hq) hKB (Or.inl ⟨rfl, hA (ma_nil _ _)⟩), fun c => by simp at c⟩
      | cons w st =>
        obtain ⟨hok, hkn⟩ : mb_ok (w :: st) ∧ k + 1 ≤ n := by
          rcases hst with h | h
          · exact absurd h.1 (by simp)
          · exact h
        have hlenE := mb_E_len (w :: st)
        have hh : (if (w :: st).head? = some 40 then (2 : Int) else 0) ≤ 2 := by split <;> omega
        have hlen : (w :: st).length < 16010 := by omega
        have hlen' : st.length < 16009 := by simp at hlen; omega
        have hlc : ((w :: st).length : Int) = (st.length : Int) + 1 := by simp
        have ek : ((k : Int)).toNat = k := by omega
        have e7 : B 7 = A 7 := hKB 7 (by decide)
        have tk : ma_t A n k = A 7 k := if_pos (by omega)
        have hkr := (hK k (by omega)).1
        have hwr : 0 ≤ w ∧ w ≤ 305 := by
          cases st with
          | nil => have : w = 0 := hok; omega
          | cons v st => have := hok.1; omega
        -- a step that consumes c words
        have go : ∀ (k2 : Nat) (st2 : List Int) (C : Nat → Nat → Int), lq_K 11 A C → mb_L C st2 → (16 * (n - k2) + mb_M st2 < 16 * (n - k) + mb_M (w :: st)) → ((st2 = [] ∧ k2 ≤ n) ∨ (mb_ok st2 ∧ k2 + 1 ≤ n)) → mb_E st2 ≤ 2 + 4 * k2 + (if st2.head? = some 40 then 2 else 0) → (ma_A (ma_t A n) k2 st2 → ma_A (ma_t A n) k (w :: st)) → ∀ x : Int, x = (k2 : Int) → P (lp_U z 12 (st2.length : Int)) C x := by
          intro k2 st2 C hKC hLC hms hst2 hE2 hA2 x hx
          rw [hx]
          exact ih _ (by omega) k2 st2 C rfl hst2 hKC hLC hE2 (fun h => hA (hA2 h))
        have fail : ∀ (r : Int) (z' : Nat → Int) (C : Nat → Nat → Int), r = (k : Int) → (∀ q, q ≠ 12 → z' q = z q) → lq_K 11 A C → Q r z' C := fun r z' C hr hz' hKC => hQ r z' C hz' hKC (Or.inr (by omega))
        have notlast : A 7 k ≠ 0 → A 7 k ≠ 2 → k + 1 + 1 ≤ n := by
          intro a b
          apply Classical.byContradiction
          intro hc
          have : n - 1 = k := by omega
          rw [this] at hlast
          rcases hlast with h | h
          · exact a h
          · exact b h
        refine hP _ B _ ?_
        rw [lp_U_same]
        refine ⟨⟨by omega, by omega⟩, fun c => by omega, fun _ z2 hz2 => ?_⟩
        rw [lp_U_U] at hz2
        have e12 : ((w :: st).length : Int) - 1 = (st.length : Int) := by omega
        rw [e12] at hz2
        subst hz2
        rw [lp_U_same]
        have el : ((st.length : Int)).toNat = st.length := by omega
        refine ⟨⟨by omega, by omega⟩, fun x2 hx2 => ?_⟩
        rw [el, hLB.1] at hx2
        subst hx2
        refine ⟨⟨by omega, by omega⟩, fun x3 hx3 => ?_⟩
        rw [ek, e7] at hx3
        subst hx3
        have hbase := hLB.2
        simp only [mb_E] at hE
        refine ⟨⟨by omega, by omega⟩, fun big => ⟨⟨by omega, by omega⟩, fun npart => ?_, fun isnode => ?_⟩, fun small => ⟨⟨by omega, by omega⟩, ⟨by omega, by omega⟩, fun eq x1 hx1 => ?_, fun ne => fail _ _ B rfl (fun q hq => lp_U_other hq) hKB⟩⟩
        · -- a part
          have hsne : st ≠ [] := by
            intro e
            rw [e] at hok
            have : x2 = 0 := hok
            omega
          have hokt := mb_ok_tail hok hsne
          have hd40 : ¬ (x2 :: st).head? = some 40 := by simp; omega
          rw [if_neg hd40] at hE
          refine ⟨⟨by omega, by omega⟩, fun n301 => ⟨⟨by omega, by omega⟩, fun n302 => ⟨⟨by omega, by omega⟩, fun n303 => ⟨⟨by omega, by omega⟩, fun comma => ?_, fun ncomma => ?_⟩, fun is303 => ?_⟩, fun is302 => ⟨⟨by omega, by omega⟩, fun nslash => ?_, fun slash => ?_⟩⟩, fun is301 => ?_⟩
          · -- a comma: more
            have hw2 : (x2 = 304 ∧ (303 : Int) = 303) ∨ (x2 = 305 ∧ (303 : Int) = 303) := by omega
            have hee : mb_e x2 = 1 := by unfold mb_e; rw [if_neg (by omega), if_neg (by omega)]
            have hmm : mb_m x2 = 1 := by unfold mb_m; rw [if_neg (by omega), if_neg (by omega), if_neg (by omega)]
            have hnl := notlast (by omega) (by omega)
            refine wq_want (by omega) hbase (fun C1 hC1 hL1' => ?_)
            have push : ∀ v : Int, (x2 = 304 ∧ v = 303) ∨ (x2 = 305 ∧ v = 300) → wp_part_112 (lp_U z 12 ((x2 :: st).length : Int)) C1 v (fun r z' A' => ∀ x1 : Int, x1 = (k : Int) + r → wp_bad_105 z' A' x1 P Q) := by
              intro v hv
              refine wq_want (by omega) hL1' (fun C2 hC2 hL2' x1 hx1 => ?_)
              refine go (k + 1) (v :: x2 :: st) C2 (lq_K_trans hKB (lq_K_trans hC1 hC2)) hL2' ?_ (Or.inr ⟨mb_ok_cons (by omega) hok, by omega⟩) ?_ (fun h => ?_) x1 (by omega)
              · simp only [mb_M]
                have : mb_m v ≤ 7 := by unfold mb_m; split <;> (try split) <;> (try split) <;> omega
                omega
              · simp only [mb_E]
                have : mb_e v ≤ 4 := by unfold mb_e; split <;> (try split) <;> omega
                rw [if_neg (by simp; omega)]
                omega
              · rw [ma_more hv, if_pos (by rw [tk]; exact comma)]
                exact h
            exact ⟨⟨by omega, by omega⟩, fun n304 => push 300 (Or.inr ⟨by omega, rfl⟩), fun is304 => push 303 (Or.inl ⟨is304, rfl⟩)⟩
          · -- none
            intro x1 hx1
            have hv : (x2 = 304 ∧ (if x2 = 304 then (303 : Int) else 300) = 303) ∨ (x2 = 305 ∧ (if x2 = 304 then (303 : Int) else 300) = 300) := by
              rcases (show x2 = 304 ∨ x2 = 305 by omega) with e | e <;> subst e <;> simp
            have hee : 1 ≤ mb_e x2 := by unfold mb_e; split <;> (try split) <;> omega
            refine go k st B hKB hbase ?_ (Or.inr ⟨hokt, hkn⟩) ?_ (fun h => ?_) x1 (by omega)
            · simp only [mb_M]
              have : 1 ≤ mb_m x2 := by unfold mb_m; split <;> (try split) <;> (try split) <;> omega
              omega
            · split <;> omega
            · rw [ma_more hv, if_neg (by rw [tk]; exact ncomma)]
              exact h
          · -- a way
            refine wq_want (by omega) hbase (fun C1 hC1 hL1' => wq_want (by simp; omega) hL1' (fun C2 hC2 hL2' => wq_want (by simp; omega) hL2' (fun C3 hC3 hL3' x1 hx1 => ?_)))
            have hee : mb_e x2 = 4 := by rw [is303]; rfl
            have hmm : mb_m x2 = 7 := by rw [is303]; rfl
            refine go k (301 :: 58 :: 300 :: st) C3 (lq_K_trans hKB (lq_K_trans hC1 (lq_K_trans hC2 hC3))) hL3' ?_ (Or.inr ⟨mb_ok_cons (by decide) (mb_ok_cons (by decide) (mb_ok_cons (by decide) hokt)), hkn⟩) ?_ (fun h => ?_) x1 (by omega)
            · simp only [mb_M, hmm]
              have a1 : mb_m 301 = 4 := rfl
              have a2 : mb_m 58 = 1 := rfl
              have a3 : mb_m 300 = 1 := rfl
              omega
            · simp only [mb_E]
              have a1 : mb_e 301 = 2 := rfl
              have a2 : mb_e 58 = 1 := rfl
              have a3 : mb_e 300 = 1 := rfl
              rw [if_neg (by simp)]
              omega
            · rw [is303]
              exact ma_way.mpr h
          · -- no stroke
            intro x1 hx1
            have hee : mb_e x2 = 1 := by rw [is302]; rfl
            have hmm : mb_m x2 = 2 := by rw [is302]; rfl
            refine go k st B hKB hbase (by simp only [mb_M]; omega) (Or.inr ⟨hokt, hkn⟩) (by split <;> omega) (fun h => ?_) x1 (by omega)
            rw [is302]
            refine ma_line.mpr ?_
            rw [if_neg (by rw [tk]; exact nslash)]
            exact h
          · refine wq_want (by omega) hbase (fun C1 hC1 hL1' x1 hx1 => ?_)
            have hee : mb_e x2 = 1 := by rw [is302]; rfl
            have hmm : mb_m x2 = 2 := by rw [is302]; rfl
            have hnl := notlast (by omega) (by omega)
            refine go (k + 1) (1 :: st) C1 (lq_K_trans hKB hC1) hL1' ?_ (Or.inr ⟨mb_ok_cons (by decide) hokt, by omega⟩) ?_ (fun h => ?_) x1 (by omega)
            · simp only [mb_M]
              have a1 : mb_m 1 = 1 := rfl
              omega
            · simp only [mb_E]
              have a1 : mb_e 1 = 1 := rfl
              rw [if_neg (by simp)]
              omega
            · rw [is302]
              refine ma_line.mpr ?_
              rw [if_pos (by rw [tk]; exact slash)]
              exact h
          · -- a fraction
            refine wq_want (by omega) hbase (fun C1 hC1 hL1' => wq_want (by simp; omega) hL1' (fun C2 hC2 hL2' => ?_))
            have hee : mb_e x2 = 2 := by rw [is301]; rfl
            have hmm : mb_m x2 = 4 := by rw [is301]; rfl
            have a1 : mb_m 1 = 1 := rfl
            have a2 : mb_m 302 = 2 := rfl
            have b1 : mb_e 1 = 1 := rfl
            have b2 : mb_e 302 = 1 := rfl
            refine ⟨⟨by omega, by omega⟩, fun nm x1 hx1 => ?_, fun mn x1 hx1 => ?_⟩
            · refine go k (1 :: 302 :: st) C2 (lq_K_trans hKB (lq_K_trans hC1 hC2)) hL2' (by simp only [mb_M]; omega) (Or.inr ⟨mb_ok_cons (by decide) (mb_ok_cons (by decide) hokt), hkn⟩) (by simp only [mb_E]; rw [if_neg (by simp)]; omega) (fun h => ?_) x1 (by omega)
              rw [is301]
              refine ma_frac.mpr ?_
              rw [if_neg (by rw [tk]; exact nm)]
              exact h
            · have hnl := notlast (by omega) (by omega)
              refine go (k + 1) (1 :: 302 :: st) C2 (lq_K_trans hKB (lq_K_trans hC1 hC2)) hL2' (by simp only [mb_M]; omega) (Or.inr ⟨mb_ok_cons (by decide) (mb_ok_cons (by decide) hokt), by omega⟩) (by simp only [mb_E]; rw [if_neg (by simp)]; omega) (fun h => ?_) x1 (by omega)
              rw [is301]
              refine ma_frac.mpr ?_
              rw [if_pos (by rw [tk]; exact mn)]
              exact h
        · -- a node
          have hsne : st ≠ [] := by
            intro e
            rw [e] at hok
            have : x2 = 0 := hok
            omega
          have hokt := mb_ok_tail hok hsne
          have hd40 : ¬ (x2 :: st).head? = some 40 := by simp; omega
          rw [if_neg hd40] at hE
          have hee : mb_e x2 = 1 := by rw [isnode]; rfl
          have hmm : mb_m x2 = 1 := by rw [isnode]; rfl
          have m1 : mb_m 301 = 4 := rfl
          have m2 : mb_m 303 = 7 := rfl
          have m3 : mb_m 304 = 1 := rfl
          have m4 : mb_m 305 = 1 := rfl
          have m5 : mb_m 300 = 1 := rfl
          have m6 : mb_m 40 = 1 := rfl
          have m7 : mb_m 41 = 1 := rfl
          have m8 : mb_m 93 = 1 := rfl
          have m9 : mb_m 1 = 1 := rfl
          have q1 : mb_e 301 = 2 := rfl
          have q2 : mb_e 303 = 4 := rfl
          have q3 : mb_e 304 = 1 := rfl
          have q4 : mb_e 305 = 1 := rfl
          have q5 : mb_e 300 = 1 := rfl
          have q6 : mb_e 40 = 1 := rfl
          have q7 : mb_e 41 = 1 := rfl
          have q8 : mb_e 93 = 1 := rfl
          have q9 : mb_e 1 = 1 := rfl
          have choice : (A 7 k = 65 ∨ A 7 k = 66) → wp_node_69 (lp_U z 12 (st.length : Int)) B (fun r z' A' => hz_rI r ∧ ((¬ r = 0 → ∀ x1 : Int, x1 = (k : Int) + 1 → wp_bad_105 z' A' x1 P Q) ∧ (r = 0 → Q (k : Int) z' A'))) := by
            intro hAB
            have hnl := notlast (by omega) (by omega)
            refine wq_want (by omega) hbase (fun C1 hC1 hL1' => wq_want (by simp; omega) hL1' (fun C2 hC2 hL2' => wq_want (by simp; omega) hL2' (fun C3 hC3 hL3' => wq_want (by simp; omega) hL3' (fun C4 hC4 hL4' => wq_want (by simp; omega) hL4' (fun C5 hC5 hL5' => ?_)))))
            refine ⟨⟨by decide, by decide⟩, fun _ x1 hx1 => ?_, fun c => by omega⟩
            refine go (k + 1) (1 :: 40 :: 300 :: 305 :: 41 :: st) C5 (lq_K_trans hKB (lq_K_trans hC1 (lq_K_trans hC2 (lq_K_trans hC3 (lq_K_trans hC4 hC5))))) hL5' (by simp only [mb_M]; omega) (Or.inr ⟨mb_ok_cons (by decide) (mb_ok_cons (by decide) (mb_ok_cons (by decide) (mb_ok_cons (by decide) (mb_ok_cons (by decide) hokt)))), by omega⟩) (by simp only [mb_E]; rw [if_neg (by simp)]; omega) (fun h => ?_) x1 (by omega)
            rw [isnode]
            exact ma_node.mpr (Or.inr (Or.inr ⟨by rw [tk]; exact hAB, h⟩))
          refine ⟨⟨by omega, by omega⟩, fun n91 => ⟨⟨by omega, by omega⟩, fun n63 => ⟨⟨by omega, by omega⟩, fun is65 => choice (Or.inl is65), fun n65 => ⟨⟨by omega, by omega⟩, fun n66 => ⟨⟨by decide, by decide⟩, fun c => absurd rfl c, fun _ => fail _ _ B rfl (fun q hq => lp_U_other hq) hKB⟩, fun is66 => choice (Or.inr is66)⟩⟩, fun is63 => ?_⟩, fun is91 => ?_⟩
          · have hnl := notlast (by omega) (by omega)
            refine wq_want (by omega) hbase (fun C1 hC1 hL1' => wq_want (by simp; omega) hL1' (fun C2 hC2 hL2' => wq_want (by simp; omega) hL2' (fun C3 hC3 hL3' => wq_want (by simp; omega) hL3' (fun C4 hC4 hL4' => ?_))))
            refine ⟨⟨by decide, by decide⟩, fun _ x1 hx1 => ?_, fun c => by omega⟩
            refine go (k + 1) (40 :: 303 :: 304 :: 41 :: st) C4 (lq_K_trans hKB (lq_K_trans hC1 (lq_K_trans hC2 (lq_K_trans hC3 hC4)))) hL4' (by simp only [mb_M]; omega) (Or.inr ⟨mb_ok_cons (by decide) (mb_ok_cons (by decide) (mb_ok_cons (by decide) (mb_ok_cons (by decide) hokt))), by omega⟩) (by simp only [mb_E]; rw [if_pos (by simp)]; omega) (fun h => ?_) x1 (by omega)
            rw [isnode]
            exact ma_node.mpr (Or.inr (Or.inl ⟨by rw [tk]; exact is63, h⟩))
          · have hnl := notlast (by omega) (by omega)
            refine wq_want (by omega) hbase (fun C1 hC1 hL1' => wq_want (by simp; omega) hL1' (fun C2 hC2 hL2' => ?_))
            refine ⟨⟨by decide, by decide⟩, fun _ x1 hx1 => ?_, fun c => by omega⟩
            refine go (k + 1) (301 :: 93 :: st) C2 (lq_K_trans hKB (lq_K_trans hC1 hC2)) hL2' (by simp only [mb_M]; omega) (Or.inr ⟨mb_ok_cons (by decide) (mb_ok_cons (by decide) hokt), by omega⟩) (by simp only [mb_E]; rw [if_neg (by simp)]; omega) (fun h => ?_) x1 (by omega)
            rw [isnode]
            exact ma_node.mpr (Or.inl ⟨by rw [tk]; exact is91, h⟩)
        · -- a word of its own
          have hmm : 1 ≤ mb_m x2 := by unfold mb_m; split <;> (try split) <;> (try split) <;> omega
          have hee : 1 ≤ mb_e x2 := by unfold mb_e; split <;> (try split) <;> omega
          refine go (k + 1) st B hKB hbase (by simp only [mb_M]; omega) ?_ ?_ (fun h => (ma_term (by omega)).mpr ⟨by rw [tk]; exact eq, h⟩) x1 (by omega)
          · cases st with
            | nil => exact Or.inl ⟨rfl, hkn⟩
            | cons v st =>
              refine Or.inr ⟨hok.2, ?_⟩
              have hw := hok.1
              exact notlast (by omega) (by omega)
          · split at hE <;> split <;> omega
  have h := key _ 0 [300, 0] B2 rfl (Or.inr ⟨⟨by decide, rfl⟩, n1⟩) (lq_K_trans hK1 hK2) hL2 (by decide) (fun h => h)
  exact h

-- 53.steps
/-- a fault was told -/
noncomputable def mo_stop (z z' : Nat → Int) : Prop := (∀ q, q ≠ 35 → q ≠ 36 → z' q = z q) ∧ z' 35 ≠ 0 ∧ hz_rI (z' 35)
theorem wq_stop {z : Nat → Int} {A : Nat → Nat → Int} {c w : Int} {Q : (Nat → Int) → Prop} (hc : 1 ≤ c ∧ c ≤ 6) (hw : 0 ≤ w ∧ w < 4001) (hf : hz_rI (z 35)) (hQ : ∀ z', mo_stop z z' → Q z') : wp_stop z A c w Q := by
  refine ⟨hf, fun ne => hQ z ⟨fun _ _ _ => rfl, ne, hf⟩, fun e z2 hz2 => ⟨hw, fun z3 hz3 => hQ z3 ⟨fun q a b => ?_, ?_, ?_⟩⟩⟩
  · rw [hz3, lp_U_other b, hz2, lp_U_other a]
  · rw [hz3, lp_U_other (by decide), hz2, lp_U_same]
    omega
  · rw [hz3, lp_U_other (by decide), hz2, lp_U_same]
    exact ⟨by omega, by omega⟩
theorem wq_divisor {z : Nat → Int} {A : Nat → Nat → Int} {a b : Int} {Q : Int → Prop} (ha : -4000000000000000000 ≤ a ∧ a ≤ 4000000000000000000) (hb : 1 ≤ b ∧ b ≤ 4000000000000000000) (hQ : ∀ r, 1 ≤ r → r ∣ a → r ∣ b → Q r) : wp_divisor z A a b Q := by
  have loop : ∀ x : Int, 0 ≤ x → x ≤ 4000000000000000000 → (∀ r : Int, r ∣ x → r ∣ a) → wp_divisor_17 z A x b Q := by
    intro x0 x00 x01 hx0
    intro P hP
    have key : ∀ (k : Nat) (x y : Int), y.toNat = k → 0 ≤ x → x ≤ 4000000000000000000 → 0 ≤ y → y ≤ 4000000000000000000 → (0 < y ∨ 0 < x) → (∀ r : Int, r ∣ x → r ∣ y → r ∣ a ∧ r ∣ b) → P x y := by
      intro k
      induction k using Nat.strongRecOn with
      | ind k ih =>
        intro x y hk x0 x1 y0 y1 hp hr
        refine hP x y ⟨⟨by omega, by omega⟩, fun c => ?_, fun c => ⟨by omega, ⟨by omega, by omega⟩, ⟨by omega, by omega⟩, fun r hrr => ?_⟩⟩
        · have hy : y = 0 := by omega
          obtain ⟨h1, h2⟩ := hr x (Int.dvd_refl x) (by rw [hy]; exact Int.dvd_zero x)
          exact hQ x (by omega) h1 h2
        · rw [Int.tmod_eq_emod_of_nonneg x0] at hrr
          have m0 : 0 ≤ x % y := Int.emod_nonneg _ (by omega)
          have m1 : x % y < y := Int.emod_lt_of_pos _ (by omega)
          refine ih r.toNat (by omega) y r rfl y0 y1 (by omega) (by omega) (Or.inr (by omega)) (fun q q1 q2 => hr q ?_ q1)
          rw [hrr] at q2
          have e : x % y + y * (x / y) = x := Int.emod_add_mul_ediv x y
          rw [← e]
          exact Int.dvd_add q2 (Int.dvd_trans q1 (Int.dvd_mul_right y _))
    exact key _ x0 b rfl x00 x01 (by omega) (by omega) (Or.inl (by omega)) (fun r h1 h2 => ⟨hx0 r h1, h2⟩)
  exact ⟨⟨by omega, by omega⟩, fun c => loop a c (by omega) (fun r h => h), fun c => loop (-a) (by omega) (by omega) (fun r h => Int.dvd_neg.mp h)⟩
theorem mo_div {a b r : Int} (hr : 1 ≤ r) (h1 : r ∣ a) (h2 : r ∣ b) (ha : 0 < a) (hab : a ≤ b) : (1 ≤ a.tdiv r ∧ a.tdiv r ≤ b.tdiv r) ∧ b.tdiv r ≤ b := by
  obtain ⟨x, hx⟩ := h1
  obtain ⟨y, hy⟩ := h2
  have ex : a.tdiv r = x := by rw [hx, Int.mul_tdiv_cancel_left _ (by omega)]
  have ey : b.tdiv r = y := by rw [hy, Int.mul_tdiv_cancel_left _ (by omega)]
  rw [ex, ey]
  have x1 : 1 ≤ x := by
    apply Classical.byContradiction
    intro hc
    have : 0 ≤ r * (-x) := Int.mul_nonneg (by omega) (by omega)
    rw [Int.mul_neg] at this
    omega
  have xy : x ≤ y := by
    apply Classical.byContradiction
    intro hc
    have : r * (y + 1) ≤ r * x := Int.mul_le_mul_of_nonneg_left (by omega) (by omega)
    rw [Int.mul_add] at this
    omega
  have yb : 1 * y ≤ r * y := Int.mul_le_mul_of_nonneg_right hr (by omega)
  exact ⟨⟨x1, xy⟩, by omega⟩
theorem mo_divn {a r : Int} (hr : 1 ≤ r) (h1 : r ∣ a) : ((a.tdiv r).natAbs : Int) ≤ a.natAbs ∧ (1 ≤ a → 1 ≤ a.tdiv r) := by
  obtain ⟨x, hx⟩ := h1
  have ex : a.tdiv r = x := by rw [hx, Int.mul_tdiv_cancel_left _ (by omega)]
  rw [ex, hx, Int.natAbs_mul, Int.natCast_mul]
  have e : ((r.natAbs : Nat) : Int) = r := by omega
  rw [e]
  refine ⟨?_, fun h => ?_⟩
  · have : 1 * (x.natAbs : Int) ≤ r * (x.natAbs : Int) := Int.mul_le_mul_of_nonneg_right hr (by omega)
    omega
  · apply Classical.byContradiction
    intro hc
    have : 0 ≤ r * (-x) := Int.mul_nonneg (by omega) (by omega)
    rw [Int.mul_neg] at this
    omega
theorem mo_tok {A : Nat → Nat → Int} {n k : Nat} (hT : mc_T A n) (h0 : ma_t A n k ≠ 0) (h2 : ma_t A n k ≠ 2) : k + 1 < n ∧ ma_t A n k = A 7 k := by
  have hk : k < n := by
    apply Classical.byContradiction
    intro hc
    exact h2 (if_neg hc)
  have e : ma_t A n k = A 7 k := if_pos hk
  refine ⟨?_, e⟩
  apply Classical.byContradiction
  intro hc
  have hn : n - 1 = k := by omega
  have := hT.2.2.2.2
  rw [hn, ← e] at this
  rcases this with h | h
  · exact h0 h
  · exact h2 h
theorem wq_fraction {z : Nat → Int} {A : Nat → Nat → Int} {n k : Nat} {dr : Int} {st : List Int} {Q : (Nat → Int) → Prop} (hT : mc_T A n) (hdr : dr = 0 ∨ dr = 1) (hk : z 46 = (k : Int)) (hf : z 35 = 0) (hA : ma_A (ma_t A n) k (301 :: st))
    (hQ1 : ∀ z' (k' : Nat), (∀ q, q ≠ 46 → q ≠ 47 → q ≠ 48 → z' q = z q) → z' 46 = (k' : Int) → k < k' → ma_A (ma_t A n) k' st → (-9999 ≤ z' 47 ∧ z' 47 ≤ 9999) → (1 ≤ z' 48 ∧ z' 48 ≤ 9999) → (dr = 1 → 1 ≤ z' 47 ∧ z' 47 ≤ z' 48) → Q z')
    (hQ0 : ∀ z', (∀ q, q ≠ 35 → q ≠ 36 → q ≠ 46 → q ≠ 47 → q ≠ 48 → z' q = z q) → z' 35 ≠ 0 → hz_rI (z' 35) → Q z') : wp_fraction z A dr Q := by
  have hK := hT.2.2.1
  have hn := hT.2.1
  rw [ma_frac] at hA
  -- behind the sign
  have rest : ∀ (k1 : Nat) (sg : Int) (x2 : Int), k ≤ k1 → (0 ≤ x2 ∧ x2 < 4001) → (sg = 0 ∨ sg = 1) → ma_A (ma_t A n) k1 (1 :: 302 :: st) → wp_fraction_43 z A dr x2 sg (k1 : Int) Q := by
    intro k1 sg x2 hkk hx2 hsg h1
    obtain ⟨t1, h2⟩ := (ma_term (by decide)).mp h1
    obtain ⟨l1, e1⟩ := mo_tok hT (by rw [t1]; decide) (by rw [t1]; decide)
    rw [ma_line] at h2
    have tk1 : ma_t A n (k1 + 1) = A 7 (k1 + 1) := if_pos (by omega)
    have ek1 : ((k1 : Int)).toNat = k1 := by omega
    have n1 := (hK k1 (by omega)).2.1
    have body : ∀ (z0 : Nat → Int) (tp : Int), (∀ q, q ≠ 46 → z0 q = z q) → z0 46 = (k1 : Int) → (-9999 ≤ tp ∧ tp ≤ 9999) → wp_fraction_75 z0 A dr x2 tp Q := by
      intro z0 tp hz0 h46 htp z7 hz7 z8 hz8 z9 hz9
      have g46 : z9 46 = ((k1 + 1 : Nat) : Int) := by
        rw [hz9, lp_U_same, hz8, lp_U_other (by decide), hz7, lp_U_other (by decide), h46]
        omega
      have g47 : z9 47 = tp := by rw [hz9, lp_U_other (by decide), hz8, lp_U_other (by decide), hz7, lp_U_same]
      have g48 : z9 48 = 1 := by rw [hz9, lp_U_other (by decide), hz8, lp_U_same]
      have gq : ∀ q, q ≠ 46 → q ≠ 47 → q ≠ 48 → z9 q = z q := fun q a b c => by rw [hz9, lp_U_other a, hz8, lp_U_other c, hz7, lp_U_other b]; exact hz0 q a
      have e9 : (z9 46).toNat = k1 + 1 := by omega
      have hkr := (hK (k1 + 1) (by omega)).1
      -- what a fraction must not be
      have last : ∀ (zz : Nat → Int) (k' : Nat), (∀ q, q ≠ 46 → q ≠ 47 → q ≠ 48 → zz q = z q) → zz 46 = (k' : Int) → k < k' → zz 47 = tp → (0 ≤ zz 48 ∧ zz 48 ≤ 9999) → ma_A (ma_t A n) k' st → wp_fraction_133 zz A dr x2 Q := by
        intro zz k' hzz h46' hlt h47' h48' hacc
        have z35 : zz 35 = 0 := by rw [hzz 35 (by decide) (by decide) (by decide)]; exact hf
        have bad : wp_fraction_167 zz A x2 Q := wq_stop (by decide) hx2 (by rw [z35]; exact ⟨by decide, by decide⟩) (fun z' hz' => hQ0 z' (fun q a b c d e => by rw [hz'.1 q a b]; exact hzz q c d e) hz'.2.1 hz'.2.2)
        refine ⟨⟨by omega, by omega⟩, fun _ => bad, fun nz => ⟨⟨by omega, by omega⟩, fun d0 => hQ1 zz k' hzz h46' hlt hacc (by omega) (by omega) (fun c => by omega), fun d1 => ⟨⟨by omega, by omega⟩, fun _ => bad, fun pos => ⟨⟨by omega, by omega⟩, ⟨by omega, by omega⟩, fun le => hQ1 zz k' hzz h46' hlt hacc (by omega) (by omega) (fun _ => ⟨by omega, le⟩), fun _ => bad⟩⟩⟩⟩
      refine ⟨⟨by omega, by omega⟩, by rw [e9]; exact ⟨by omega, by omega⟩, fun ns => ?_, fun sl => ?_⟩
      · rw [e9, ← tk1] at ns
        rw [if_neg ns] at h2
        exact last z9 (k1 + 1) gq g46 (by omega) g47 (by omega) h2
      · rw [e9, ← tk1] at sl
        rw [if_pos sl] at h2
        obtain ⟨t3, h4⟩ := (ma_term (by decide)).mp h2
        obtain ⟨l3, e3⟩ := mo_tok hT (by rw [t3]; decide) (by rw [t3]; decide)
        have e10 : (z9 46 + 1).toNat = k1 + 1 + 1 := by omega
        have n3 := (hK (k1 + 1 + 1) (by omega)).2.1
        refine ⟨⟨by omega, by omega⟩, by rw [e10]; exact ⟨by omega, by omega⟩, fun z11 hz11 z12 hz12 => ?_⟩
        rw [e10] at hz11
        refine last z12 (k1 + 1 + 1 + 1) (fun q a b c => by rw [hz12, lp_U_other a, hz11, lp_U_other c]; exact gq q a b c) ?_ (by omega) ?_ ?_ h4
        · rw [hz12, lp_U_same, hz11, lp_U_other (by decide)]
          omega
        · rw [hz12, lp_U_other (by decide), hz11, lp_U_other (by decide)]
          exact g47
        · rw [hz12, lp_U_other (by decide), hz11, lp_U_same]
          exact n3
    intro z13 hz13
    have g46 : z13 46 = (k1 : Int) := by rw [hz13, lp_U_same]
    have gq : ∀ q, q ≠ 46 → z13 q = z q := fun q a => by rw [hz13, lp_U_other a]
    have et : (z13 46).toNat = k1 := by omega
    refine ⟨by rcases hsg with h | h <;> rw [h] <;> exact ⟨by decide, by decide⟩, fun _ => ⟨⟨by omega, by omega⟩, by rw [et]; exact ⟨by omega, by omega⟩, ?_⟩, fun _ => ⟨⟨by omega, by omega⟩, by rw [et]; exact ⟨by omega, by omega⟩, ?_⟩⟩
    · rw [et]
      exact body z13 _ gq g46 (by omega)
    · rw [et]
      exact body z13 _ gq g46 (by omega)
  intro x2 hx2
  have ek : (z 46).toNat = k := by omega
  by_cases c : ma_t A n k = 45
  · obtain ⟨l, e⟩ := mo_tok hT (by rw [c]; decide) (by rw [c]; decide)
    rw [if_pos c] at hA
    refine ⟨⟨by omega, by omega⟩, by rw [ek, ← e, c]; exact ⟨by decide, by decide⟩, fun ne => by rw [ek, ← e] at ne; exact absurd c ne, fun _ => ⟨⟨by decide, by decide⟩, fun f => absurd f (by decide), fun _ => ?_⟩⟩
    have e1 : z 46 + 1 = ((k + 1 : Nat) : Int) := by omega
    rw [e1]
    exact rest (k + 1) 1 x2 (by omega) (by omega) (Or.inr rfl) hA
  · rw [if_neg c] at hA
    obtain ⟨t1, -⟩ := (ma_term (by decide)).mp hA
    obtain ⟨l, e⟩ := mo_tok hT (by rw [t1]; decide) (by rw [t1]; decide)
    refine ⟨⟨by omega, by omega⟩, by rw [ek, ← e, t1]; exact ⟨by decide, by decide⟩, fun _ => ⟨⟨by decide, by decide⟩, fun _ => ?_, fun f => absurd rfl f⟩, fun eq => by rw [ek, ← e] at eq; exact absurd eq c⟩
    rw [hk]
    exact rest k 0 x2 (by omega) (by omega) (Or.inl rfl) hA
theorem wq_together {z : Nat → Int} {A : Nat → Nat → Int} {k n : Nat} {Q : (Nat → Int) → Prop} (hk : k < 24) (hn : n ≤ 8) (hw : 0 ≤ A 37 k ∧ A 37 k < 4001) (hf : z 35 = 0) (hc : ∀ i, i < n → (1 ≤ A 44 (9 * k + i) ∧ A 44 (9 * k + i) ≤ 9999) ∧ (0 ≤ A 43 (9 * k + i) ∧ A 43 (9 * k + i) ≤ 9999)) (hQ : ∀ z', (z' = z ∨ mo_stop z z') → Q z') : wp_together z A (k : Int) (n : Int) Q := by
  have ek : ((k : Int)).toNat = k := by omega
  have hf' : hz_rI (z 35) := by rw [hf]; exact ⟨by decide, by decide⟩
  have fin : ∀ mul : Int, 1 ≤ mul → mul ≤ 10000000000000 → wp_together_55 z A (k : Int) (n : Int) mul Q := by
    intro mul m0 m1
    refine ⟨⟨by omega, by omega⟩, fun small x7 hx7 => ?_, fun _ => ⟨⟨by omega, by omega⟩, by rw [ek]; exact wq_stop (by decide) hw hf' (fun z' h => hQ z' (Or.inr h))⟩⟩
    intro P hP
    have key : ∀ (q i : Nat) (s : Int), n - i = q → i ≤ n → 0 ≤ s → s ≤ 10000000000000 * i → P s ((9 * k + i : Nat) : Int) := by
      intro q
      induction q with
      | zero =>
        intro i s hq hi s0 s1
        refine hP s _ ⟨⟨by omega, by omega⟩, ⟨by omega, by omega⟩, fun _ => ⟨⟨by omega, by omega⟩, ⟨by omega, by omega⟩, fun _ => hQ z (Or.inl rfl), fun _ => ⟨⟨by omega, by omega⟩, by rw [ek]; exact wq_stop (by decide) hw hf' (fun z' h => hQ z' (Or.inr h))⟩⟩, fun d => by omega⟩
      | succ q ih =>
        intro i s hq hi s0 s1
        obtain ⟨⟨b0, b1⟩, t0, t1⟩ := hc i (by omega)
        have ei : (((9 * k + i : Nat) : Int)).toNat = 9 * k + i := by omega
        refine hP s _ ⟨⟨by omega, by omega⟩, ⟨by omega, by omega⟩, fun d => by omega, fun d => ⟨⟨by omega, by omega⟩, ⟨by omega, by omega⟩, ?_⟩⟩
        rw [ei]
        refine ⟨by omega, ⟨by omega, by omega⟩, ⟨by omega, by omega⟩, fun s2 hs2 x8 hx8 => ?_⟩
        have e8 : x8 = ((9 * k + (i + 1) : Nat) : Int) := by omega
        rw [Int.tdiv_eq_ediv_of_nonneg (by omega)] at hs2
        have d0 : 0 ≤ mul / A 44 (9 * k + i) := Int.ediv_nonneg (by omega) (by omega)
        have d1 : mul / A 44 (9 * k + i) ≤ mul := Int.ediv_le_self _ (by omega)
        have p0 : 0 ≤ A 43 (9 * k + i) * (mul / A 44 (9 * k + i)) := Int.mul_nonneg t0 d0
        have p1 : A 43 (9 * k + i) * (mul / A 44 (9 * k + i)) ≤ 9999 * (mul / A 44 (9 * k + i)) := Int.mul_le_mul_of_nonneg_right t1 d0
        rw [e8]
        exact ih (i + 1) s2 (by omega) (by omega) (by omega) (by omega)
    have h := key _ 0 0 rfl (by omega) (by omega) (by omega)
    have e : x7 = ((9 * k + 0 : Nat) : Int) := by omega
    rw [e]
    exact h
  intro x hx
  intro P hP
  have key : ∀ (q i : Nat) (mul : Int), n - i = q → i ≤ n → 1 ≤ mul → mul ≤ 10000000000000 → P mul ((9 * k + i : Nat) : Int) := by
    intro q
    induction q with
    | zero =>
      intro i mul hq hi m0 m1
      exact hP mul _ ⟨⟨by omega, by omega⟩, ⟨by omega, by omega⟩, fun _ => fin mul m0 m1, fun d => by omega⟩
    | succ q ih =>
      intro i mul hq hi m0 m1
      obtain ⟨⟨b0, b1⟩, t0, t1⟩ := hc i (by omega)
      have ei : (((9 * k + i : Nat) : Int)).toNat = 9 * k + i := by omega
      refine hP mul _ ⟨⟨by omega, by omega⟩, ⟨by omega, by omega⟩, fun d => by omega, fun d => ⟨⟨by omega, by omega⟩, fun _ => fin mul m0 m1, fun sm => ⟨⟨by omega, by omega⟩, ?_⟩⟩⟩
      rw [ei]
      refine wq_divisor (by omega) (by omega) (fun r r1 ra rb => ⟨by omega, ⟨by omega, by omega⟩, ?_, ⟨by omega, by omega⟩, fun m2 hm2 x2 hx2 => ?_⟩)
      · have := Int.le_of_dvd (by omega) rb
        exact ⟨by omega, by omega⟩
      · have e : x2 = ((9 * k + (i + 1) : Nat) : Int) := by omega
        obtain ⟨c1, c2⟩ := mo_divn r1 ra
        have c3 := c2 m0
        have p1 : mul.tdiv r * 1 ≤ mul.tdiv r * A 44 (9 * k + i) := Int.mul_le_mul_of_nonneg_left b0 (by omega)
        have p2 : mul.tdiv r * A 44 (9 * k + i) ≤ mul.tdiv r * 9999 := Int.mul_le_mul_of_nonneg_left b1 (by omega)
        rw [e]
        exact ih (i + 1) m2 (by omega) (by omega) (by omega) (by omega)
  have h := key _ 0 1 rfl (by omega) (by omega) (by omega)
  have e : x = ((9 * k + 0 : Nat) : Int) := by omega
  rw [e]
  exact h

-- 54.open
/-- how many choices are open below j: of a player, of both -/
noncomputable def go_c (B : Nat → Nat → Int) (p : Int) : Nat → Int
  | 0 => 0
  | j + 1 => go_c B p j + (if B 38 j ≠ 63 ∧ B 39 j / 10 = p then 1 else 0)
noncomputable def go_a (B : Nat → Nat → Int) : Nat → Nat
  | 0 => 0
  | j + 1 => go_a B j + (if B 38 j ≠ 63 then 1 else 0)
theorem go_c_mono (B : Nat → Nat → Int) (p : Int) (i j : Nat) (h : i ≤ j) : go_c B p i ≤ go_c B p j := by
  induction j with
  | zero =>
    have : i = 0 := by omega
    subst this
    exact Int.le_refl _
  | succ j ih =>
    by_cases e : i = j + 1
    · subst e
      exact Int.le_refl _
    · have := ih (by omega)
      simp only [go_c]
      split <;> omega
theorem go_c_range (B : Nat → Nat → Int) (p : Int) (j : Nat) : 0 ≤ go_c B p j ∧ go_c B p j ≤ j := by
  induction j with
  | zero => exact ⟨Int.le_refl _, Int.le_refl _⟩
  | succ j ih => simp only [go_c]; split <;> omega
theorem go_c_congr {B C : Nat → Nat → Int} (p : Int) (j : Nat) (h : ∀ i, i < j → C 38 i = B 38 i ∧ C 39 i = B 39 i) : go_c C p j = go_c B p j := by
  induction j with
  | zero => rfl
  | succ j ih => simp only [go_c]; rw [ih (fun i hi => h i (by omega)), (h j (by omega)).1, (h j (by omega)).2]
theorem go_a_le (B : Nat → Nat → Int) (j : Nat) : go_a B j ≤ j := by
  induction j with
  | zero => exact Nat.le_refl _
  | succ j ih => simp only [go_a]; split <;> omega
theorem go_a_mono (B : Nat → Nat → Int) (i j : Nat) (h : i ≤ j) : go_a B i ≤ go_a B j := by
  induction j with
  | zero =>
    have : i = 0 := by omega
    subst this
    exact Nat.le_refl _
  | succ j ih =>
    by_cases e : i = j + 1
    · subst e
      exact Nat.le_refl _
    · have := ih (by omega)
      simp only [go_a]
      omega
/-- the sets of open choices are known ones, and how often the player chose ahead of them is told -/
noncomputable def go_T (B : Nat → Nat → Int) (d o : Nat) : Prop := ∀ j, j < o → B 38 j ≠ 63 → ∃ p s : Nat, p < 2 ∧ B 39 j = ((10 * p + s : Nat) : Int) ∧ s < 10 ∧ (s : Int) < B 26 (2 * d + p)
noncomputable def go_P (B : Nat → Nat → Int) (d o : Nat) : Prop := ∀ j, j < o → B 38 j ≠ 63 → B 29 (20 * d + (B 39 j).toNat) = go_c B (B 39 j / 10) j
theorem go_dist {B : Nat → Nat → Int} {d o : Nat} (hP : go_P B d o) {i j : Nat} (hij : i < j) (hj : j < o) (hi : B 38 i ≠ 63) (hj' : B 38 j ≠ 63) : B 39 i ≠ B 39 j := by
  intro e
  have h1 := hP i (by omega) hi
  have h2 := hP j hj hj'
  rw [e] at h1
  have h3 : go_c B (B 39 j / 10) i + 1 ≤ go_c B (B 39 j / 10) (i + 1) := by
    simp only [go_c]
    rw [if_pos ⟨hi, by rw [e]⟩]
    omega
  have h4 := go_c_mono B (B 39 j / 10) (i + 1) j (by omega)
  omega
/-- the sets that are known -/
noncomputable def go_S (B : Nat → Nat → Int) (d : Nat) : Prop := ∀ p, p < 2 → (0 ≤ B 26 (2 * d + p) ∧ B 26 (2 * d + p) ≤ 10) ∧ ∀ s : Nat, (s : Int) < B 26 (2 * d + p) → (0 ≤ B 27 (20 * d + (10 * p + s)) ∧ B 27 (20 * d + (10 * p + s)) ≤ 9999) ∧ (0 ≤ B 28 (20 * d + (10 * p + s)) ∧ B 28 (20 * d + (10 * p + s)) ≤ 4) ∧ (-1 ≤ B 29 (20 * d + (10 * p + s)) ∧ B 29 (20 * d + (10 * p + s)) ≤ 20) ∧
  ∀ q : Nat, (q : Int) < B 29 (20 * d + (10 * p + s)) → (-1 ≤ B 30 (20 * (20 * d + (10 * p + s)) + q) ∧ B 30 (20 * (20 * d + (10 * p + s)) + q) ≤ 20) ∧ (-1 ≤ B 31 (20 * (20 * d + (10 * p + s)) + q) ∧ B 31 (20 * (20 * d + (10 * p + s)) + q) ≤ 401)
theorem wq_findSet {z : Nat → Int} {B : Nat → Nat → Int} {d p : Nat} {told : Int} {Q : Int → (Nat → Nat → Int) → Prop} (hd : d < 2) (hz : z 33 = (d : Int)) (hp : p < 2) (ht : 0 ≤ told ∧ told ≤ 9999) (hS : go_S B d)
    (hQ1 : ∀ s : Nat, (s : Int) < B 26 (2 * d + p) → Q ((10 * p + s : Nat) : Int) B) (hQ0 : Q (-1) B)
    (hQ2 : ∀ (s : Nat) (C : Nat → Nat → Int), (s : Int) = B 26 (2 * d + p) → s < 10 → (∀ k, k ≠ 26 → k ≠ 27 → k ≠ 28 → k ≠ 29 → C k = B k) → (∀ i, C 26 i = if i = 2 * d + p then (s : Int) + 1 else B 26 i) → (∀ i, C 27 i = if i = 20 * d + (10 * p + s) then told else B 27 i) → (∀ i, C 28 i = if i = 20 * d + (10 * p + s) then 0 else B 28 i) → (∀ i, C 29 i = if i = 20 * d + (10 * p + s) then -1 else B 29 i) → Q ((10 * p + s : Nat) : Int) C) : wp_findSet z B (p : Int) told Q := by
  obtain ⟨⟨n0, n1⟩, hS2⟩ := hS p hp
  have e1 : (2 * z 33 + (p : Int)).toNat = 2 * d + p := by omega
  refine ⟨⟨by omega, by omega⟩, fun x3 hx3 => ?_⟩
  rw [e1] at hx3
  subst hx3
  intro P hP
  have key : ∀ (k s : Nat), (B 26 (2 * d + p)).toNat - s = k → (s : Int) ≤ B 26 (2 * d + p) → P (s : Int) := by
    intro k
    induction k with
    | zero =>
      intro s hk hs
      have es : B 26 (2 * d + p) = (s : Int) := by omega
      refine hP _ ⟨⟨by omega, by omega⟩, ⟨by omega, by omega⟩, fun _ => ⟨⟨by omega, by omega⟩, fun ne x4 hx4 => ?_, fun _ => hQ0⟩, fun c => by omega⟩
      have ex : x4 = ((10 * p + s : Nat) : Int) := by omega
      have ei : (20 * z 33 + x4).toNat = 20 * d + (10 * p + s) := by omega
      refine ⟨⟨by omega, by omega⟩, fun C1 hC1 => ⟨⟨by omega, by omega⟩, fun C2 hC2 => ⟨⟨by omega, by omega⟩, fun C3 hC3 => ⟨⟨by omega, by omega⟩, fun C4 hC4 => ?_⟩⟩⟩⟩
      rw [ex]
      refine hQ2 s C4 es.symm (by omega) (fun k a b c e => ?_) (fun i => ?_) (fun i => ?_) (fun i => ?_) (fun i => ?_)
      · rw [hC4, hb_s_other a, hC3, hb_s_other e, hC2, hb_s_other c, hC1, hb_s_other b]
      · rw [hC4, lq_s_fun]
        unfold hz_u
        rw [e1, hC3, hb_s_other (by decide), hC2, hb_s_other (by decide), hC1, hb_s_other (by decide), es]
      · rw [hC4, hb_s_other (by decide), hC3, hb_s_other (by decide), hC2, hb_s_other (by decide), hC1, lq_s_fun]
        unfold hz_u
        rw [ei]
      · rw [hC4, hb_s_other (by decide), hC3, hb_s_other (by decide), hC2, lq_s_fun]
        unfold hz_u
        rw [ei, hC1, hb_s_other (by decide)]
      · rw [hC4, hb_s_other (by decide), hC3, lq_s_fun]
        unfold hz_u
        rw [ei, hC2, hb_s_other (by decide), hC1, hb_s_other (by decide)]
    | succ k ih =>
      intro s hk hs
      have hn := (hS2 s (by omega)).1
      have ei : (20 * z 33 + 10 * (p : Int) + (s : Int)).toNat = 20 * d + (10 * p + s) := by omega
      refine hP _ ⟨⟨by omega, by omega⟩, ⟨by omega, by omega⟩, fun c => by omega, fun c => ⟨⟨by omega, by omega⟩, ?_⟩⟩
      rw [ei]
      refine ⟨⟨by omega, by omega⟩, ⟨by omega, by omega⟩, fun _ x4 hx4 => ?_, fun _ => ?_⟩
      · have ex : x4 = ((s + 1 : Nat) : Int) := by omega
        rw [ex]
        exact ih (s + 1) (by omega) (by omega)
      · have ex : 10 * (p : Int) + (s : Int) = ((10 * p + s : Nat) : Int) := by omega
        rw [ex]
        exact hQ1 s (by omega)
  exact key _ 0 rfl (by omega)
theorem wq_recall {z : Nat → Int} {B : Nat → Nat → Int} {d o p s : Nat} {w : Int} {Q : (Nat → Int) → (Nat → Nat → Int) → Prop} (hd : d < 2) (hz : z 33 = (d : Int)) (ho : z 45 = (o : Int)) (ho2 : o ≤ 20) (hf : z 35 = 0) (hw : 0 ≤ w ∧ w < 4001) (hp : p < 2) (hs : s < 10) (hsn : (s : Int) < B 26 (2 * d + p)) (hS : go_S B d) (hT : go_T B d o) (hk : ∀ j, j < o → (0 ≤ B 38 j ∧ B 38 j ≤ 126) ∧ (-1 ≤ B 40 j ∧ B 40 j ≤ 401))
    (hQ0 : ∀ z', mo_stop z z' → Q z' B)
    (hQ1 : ∀ C, (0 ≤ B 29 (20 * d + (10 * p + s)) → B 29 (20 * d + (10 * p + s)) = go_c B p o) → (∀ k, k ≠ 29 → k ≠ 30 → k ≠ 31 → C k = B k) → (∀ i, C 29 i = if i = 20 * d + (10 * p + s) then go_c B p o else B 29 i) → (∀ i, (i < 20 * (20 * d + (10 * p + s)) ∨ 20 * (20 * d + (10 * p + s)) + 20 ≤ i) → C 30 i = B 30 i ∧ C 31 i = B 31 i) → (∀ q : Nat, (q : Int) < go_c B p o → (-1 ≤ C 30 (20 * (20 * d + (10 * p + s)) + q) ∧ C 30 (20 * (20 * d + (10 * p + s)) + q) ≤ 20) ∧ (-1 ≤ C 31 (20 * (20 * d + (10 * p + s)) + q) ∧ C 31 (20 * (20 * d + (10 * p + s)) + q) ≤ 401)) → Q z C) : wp_recall z B ((10 * p + s : Nat) : Int) w Q := by
  obtain ⟨-, -, ⟨r0, r1⟩, hq⟩ := (hS p hp).2 s hsn
  intro x3 hx3
  have ex3 : x3 = ((20 * d + (10 * p + s) : Nat) : Int) := by omega
  have e3 : x3.toNat = 20 * d + (10 * p + s) := by omega
  have hf' : hz_rI (z 35) := by rw [hf]; exact ⟨by decide, by decide⟩
  have stop : ∀ C, C = B → wp_recall_230 z C w Q := fun C hC => by rw [hC]; exact wq_stop (by decide) hw hf' (fun z' h => hQ0 z' h)
  have hdiv : ((10 * p + s : Nat) : Int).tdiv 10 = (p : Int) := by rw [Int.tdiv_eq_ediv_of_nonneg (by omega)]; omega
  -- met before
  have second : 0 ≤ B 29 (20 * d + (10 * p + s)) → wp_recall_24 z B ((10 * p + s : Nat) : Int) w x3 0 Q := by
    intro hpos
    intro P hP
    have key : ∀ (k j : Nat) (nn sm : Int), o - j = k → j ≤ o → nn = go_c B p j → (sm = 0 ∨ sm = 1) → P B nn sm (j : Int) := by
      intro k
      induction k with
      | zero =>
        intro j nn sm hk' hj hnn hsm
        have ej : j = o := by omega
        subst ej
        have hr := go_c_range B p j
        refine hP B nn sm _ ⟨⟨by omega, by omega⟩, ⟨by omega, by omega⟩, fun _ => ⟨⟨by decide, by decide⟩, fun _ => ⟨⟨by omega, by omega⟩, fun _ => stop B rfl, fun _ => ⟨⟨by omega, by omega⟩, ⟨by omega, by omega⟩, by rw [e3]; exact ⟨by omega, by omega⟩, fun eq => ?_, fun _ => stop B rfl⟩⟩, fun c => absurd rfl c⟩, fun c => by omega⟩
        rw [e3, hnn] at eq
        refine hQ1 B (fun _ => eq.symm) (fun _ _ _ _ => rfl) (fun i => ?_) (fun _ _ => ⟨rfl, rfl⟩) (fun q hq' => hq q (by omega))
        split
        · next e => rw [e, eq]
        · rfl
      | succ k ih =>
        intro j nn sm hk' hj hnn hsm
        obtain ⟨hk1, hk2⟩ := hk j (by omega)
        have hr := go_c_range B p j
        have ej : ((j : Int)).toNat = j := by omega
        have next : ∀ nn' sm' : Int, nn' = go_c B p (j + 1) → (sm' = 0 ∨ sm' = 1) → wp_recall_192 z B ((10 * p + s : Nat) : Int) w x3 0 nn' sm' (j : Int) P Q := by
          intro nn' sm' h1 h2 x hx
          have e : x = ((j + 1 : Nat) : Int) := by omega
          rw [e]
          exact ih (j + 1) nn' sm' (by omega) (by omega) h1 h2
        refine hP B nn sm _ ⟨⟨by omega, by omega⟩, ⟨by omega, by omega⟩, fun c => by omega, fun _ => ⟨⟨by omega, by omega⟩, ?_⟩⟩
        rw [ej]
        refine ⟨⟨by omega, by omega⟩, fun dr => next nn sm (by rw [hnn]; simp only [go_c]; rw [if_neg (by simp [dr])]; omega) hsm, fun nd => ⟨⟨by omega, by omega⟩, ?_⟩⟩
        obtain ⟨p', s', hp', hs', hs10, hsm'⟩ := hT j (by omega) nd
        have hrs := (hS p' hp').1
        have hd2 : (B 39 j).tdiv 10 = (p' : Int) := by rw [hs', Int.tdiv_eq_ediv_of_nonneg (by omega)]; omega
        have hd3 : B 39 j / 10 = (p' : Int) := by rw [hs']; omega
        rw [hdiv, hd2]
        refine ⟨⟨by omega, by omega⟩, ⟨by omega, by omega⟩, ⟨by omega, by omega⟩, ⟨by omega, by omega⟩, fun eq => ?_, fun ne => next nn sm (by rw [hnn]; simp only [go_c]; rw [if_neg (by rw [hd3]; exact fun h => ne h.2)]; omega) hsm⟩
        have cj : nn + 1 = go_c B p (j + 1) := by
          rw [hnn]
          simp only [go_c]
          rw [if_pos ⟨nd, by rw [hd3]; exact eq⟩]
        have up : ∀ sm' : Int, (sm' = 0 ∨ sm' = 1) → wp_recall_187 z B ((10 * p + s : Nat) : Int) w x3 0 nn (j : Int) sm' P Q := by
          intro sm' h2 x5 hx5
          exact next x5 sm' (by rw [hx5]; exact cj) h2
        refine ⟨⟨by decide, by decide⟩, fun _ => ⟨⟨by omega, by omega⟩, fun _ => up 0 (Or.inl rfl), fun _ => ⟨⟨by omega, by omega⟩, ⟨by omega, by omega⟩, by rw [e3]; exact ⟨by omega, by omega⟩, fun _ => up 0 (Or.inl rfl), fun lt => ?_⟩⟩, fun c => absurd rfl c⟩
        rw [e3] at lt
        have ein : (20 * x3 + nn).toNat = 20 * (20 * d + (10 * p + s)) + nn.toNat := by omega
        have hqq := hq nn.toNat (by omega)
        rw [ein]
        exact ⟨⟨by omega, by omega⟩, ⟨by omega, by omega⟩, ⟨by omega, by omega⟩, ⟨by omega, by omega⟩, fun _ => up 0 (Or.inl rfl), fun _ => ⟨⟨by omega, by omega⟩, ⟨by omega, by omega⟩, ⟨by omega, by omega⟩, ⟨by omega, by omega⟩, fun _ => up 0 (Or.inl rfl), fun _ => up 1 (Or.inr rfl)⟩⟩
    exact key _ 0 0 1 rfl (by omega) rfl (Or.inr rfl)
  -- met for the first time
  have first : ¬ 0 ≤ B 29 (20 * d + (10 * p + s)) → wp_recall_24 z B ((10 * p + s : Nat) : Int) w x3 1 Q := by
    intro hneg
    intro P hP
    have key : ∀ (k j : Nat) (C : Nat → Nat → Int) (nn : Int), o - j = k → j ≤ o → nn = go_c B p j → (∀ k, k ≠ 30 → k ≠ 31 → C k = B k) → (∀ i, (i < 20 * (20 * d + (10 * p + s)) ∨ 20 * (20 * d + (10 * p + s)) + 20 ≤ i) → C 30 i = B 30 i ∧ C 31 i = B 31 i) → (∀ q : Nat, (q : Int) < nn → (-1 ≤ C 30 (20 * (20 * d + (10 * p + s)) + q) ∧ C 30 (20 * (20 * d + (10 * p + s)) + q) ≤ 20) ∧ (-1 ≤ C 31 (20 * (20 * d + (10 * p + s)) + q) ∧ C 31 (20 * (20 * d + (10 * p + s)) + q) ≤ 401)) → P C nn 1 (j : Int) := by
      intro k
      induction k with
      | zero =>
        intro j C nn hk' hj hnn hC hout hin
        have ej : j = o := by omega
        subst ej
        have hr := go_c_range B p j
        refine hP C nn 1 _ ⟨⟨by omega, by omega⟩, ⟨by omega, by omega⟩, fun _ => ⟨⟨by decide, by decide⟩, fun c => by omega, fun _ => ⟨⟨by omega, by omega⟩, fun D hD => ?_⟩⟩, fun c => by omega⟩
        refine hQ1 D (fun h => absurd h hneg) (fun k a b c => by rw [hD, hb_s_other a]; exact hC k b c) (fun i => ?_) (fun i hi => by rw [hD, hb_s_other (by decide), hb_s_other (by decide)]; exact hout i hi) (fun q hq' => by rw [hD, hb_s_other (by decide), hb_s_other (by decide)]; exact hin q (by omega))
        rw [hD, lq_s_fun]
        unfold hz_u
        rw [e3, hnn, hC 29 (by decide) (by decide)]
      | succ k ih =>
        intro j C nn hk' hj hnn hC hout hin
        obtain ⟨hk1, hk2⟩ := hk j (by omega)
        have hr := go_c_range B p j
        have ej : ((j : Int)).toNat = j := by omega
        have e38 : C 38 = B 38 := hC 38 (by decide) (by decide)
        have e39 : C 39 = B 39 := hC 39 (by decide) (by decide)
        have e40 : C 40 = B 40 := hC 40 (by decide) (by decide)
        have same : nn = go_c B p (j + 1) → wp_recall_192 z C ((10 * p + s : Nat) : Int) w x3 1 nn 1 (j : Int) P Q := by
          intro h1 x hx
          have e : x = ((j + 1 : Nat) : Int) := by omega
          rw [e]
          exact ih (j + 1) C nn (by omega) (by omega) h1 hC hout hin
        refine hP C nn 1 _ ⟨⟨by omega, by omega⟩, ⟨by omega, by omega⟩, fun c => by omega, fun _ => ⟨⟨by omega, by omega⟩, ?_⟩⟩
        rw [ej, e38, e39]
        refine ⟨⟨by omega, by omega⟩, fun dr => same (by rw [hnn]; simp only [go_c]; rw [if_neg (by simp [dr])]; omega), fun nd => ⟨⟨by omega, by omega⟩, ?_⟩⟩
        obtain ⟨p', s', hp', hs', hs10, hsm'⟩ := hT j (by omega) nd
        have hd2 : (B 39 j).tdiv 10 = (p' : Int) := by rw [hs', Int.tdiv_eq_ediv_of_nonneg (by omega)]; omega
        have hd3 : B 39 j / 10 = (p' : Int) := by rw [hs']; omega
        rw [hdiv, hd2]
        refine ⟨⟨by omega, by omega⟩, ⟨by omega, by omega⟩, ⟨by omega, by omega⟩, ⟨by omega, by omega⟩, fun eq => ⟨⟨by decide, by decide⟩, fun c => by omega, fun _ => ⟨⟨by omega, by omega⟩, ⟨by omega, by omega⟩, fun D hD => ⟨⟨by omega, by omega⟩, ⟨by omega, by omega⟩, fun E hE => ?_⟩⟩⟩, fun ne => same (by rw [hnn]; simp only [go_c]; rw [if_neg (by rw [hd3]; exact fun h => ne h.2)]; omega)⟩
        have ein : (20 * x3 + nn).toNat = 20 * (20 * d + (10 * p + s)) + nn.toNat := by omega
        have eD40 : D 40 j = B 40 j := by rw [hD, hb_s_other (by decide), e40]
        have e30 : ∀ i, E 30 i = if i = 20 * (20 * d + (10 * p + s)) + nn.toNat then B 39 j else C 30 i := fun i => by
          rw [hE, hb_s_other (by decide), hD, lq_s_fun]
          unfold hz_u
          rw [ein]
        have e31 : ∀ i, E 31 i = if i = 20 * (20 * d + (10 * p + s)) + nn.toNat then B 40 j else C 31 i := fun i => by
          rw [hE, lq_s_fun]
          unfold hz_u
          rw [ein, eD40, hD, hb_s_other (by decide)]
        intro x5 hx5 x hx
        have ex : x = ((j + 1 : Nat) : Int) := by omega
        rw [ex]
        refine ih (j + 1) E x5 (by omega) (by omega) ?_ (fun k a b => by rw [hE, hb_s_other b, hD, hb_s_other a]; exact hC k a b) (fun i hi => ?_) (fun q hq' => ?_)
        · rw [hx5, hnn]
          simp only [go_c]
          rw [if_pos ⟨nd, by rw [hd3]; exact eq⟩]
        · rw [e30, e31, if_neg (by omega), if_neg (by omega)]
          exact hout i hi
        · rw [e30, e31]
          by_cases eq2 : q = nn.toNat
          · subst eq2
            rw [if_pos rfl, if_pos rfl]
            omega
          · rw [if_neg (by omega), if_neg (by omega)]
            exact hin q (by omega)
    exact key _ 0 B 0 rfl (by omega) rfl (fun _ _ _ => rfl) (fun _ _ => ⟨rfl, rfl⟩) (fun q hq' => by omega)
  exact ⟨⟨by omega, by omega⟩, by rw [e3]; exact ⟨by omega, by omega⟩, fun c => second (by rw [e3] at c; exact c), fun c => first (by rw [e3] at c; exact c)⟩

-- 55.end
theorem wq_end {z : Nat → Int} {B : Nat → Nat → Int} {d o e0 f : Nat} {y1 y3 : Int} {Q : (Nat → Nat → Int) → Prop} (hd : d < 2) (hz : z 33 = (d : Int)) (ho : z 45 = (o : Int)) (ho2 : o ≤ 20) (he : B 14 d = (e0 : Int)) (he2 : e0 < 400) (hf : B 24 d = (f : Int)) (hf2 : f ≤ 20 * e0) (hk : ∀ j, j < o → 0 ≤ B 38 j ∧ B 38 j ≤ 126)
    (hy1 : 1 ≤ y1 ∧ y1 ≤ 1000000000) (hy3 : 1 ≤ y3 ∧ y3 ≤ 1000000000) (h47 : -9999 ≤ z 47 ∧ z 47 ≤ 9999) (h48 : 1 ≤ z 48 ∧ z 48 ≤ 9999)
    (hQ : ∀ (C : Nat → Nat → Int) (t b : Int), (∀ k, k ≠ 14 → k ≠ 17 → k ≠ 18 → k ≠ 20 → k ≠ 21 → k ≠ 22 → k ≠ 23 → k ≠ 24 → C k = B k) → (∀ i, C 14 i = if i = d then (e0 : Int) + 1 else B 14 i) → C 24 d = (f : Int) + go_a B o → (-10000000000000 ≤ t ∧ t ≤ 10000000000000) → (1 ≤ b ∧ b ≤ 10000000000000) →
      (∀ i, C 17 i = if i = 400 * d + e0 then t else B 17 i) → (∀ i, C 18 i = if i = 400 * d + e0 then b else B 18 i) → (∀ i, C 20 i = if i = 400 * d + e0 then ((8000 * d + f : Nat) : Int) else B 20 i) → (∀ i, C 21 i = if i = 400 * d + e0 then ((go_a B o : Nat) : Int) else B 21 i) →
      (∀ w : Nat, (w < 8000 * d + f ∨ 8000 * d + f + go_a B o ≤ w) → C 22 w = B 22 w ∧ C 23 w = B 23 w) → (∀ q, q < go_a B o → ∃ j, j < o ∧ B 38 j ≠ 63 ∧ go_a B j = q ∧ C 22 (8000 * d + f + q) = B 39 j ∧ C 23 (8000 * d + f + q) = B 40 j) → Q C) : wp_end z B y1 y3 Q := by
  have ed : (z 33).toNat = d := by omega
  refine ⟨⟨by omega, by omega⟩, fun x5 hx5 x6 hx6 x8 hx8 => ?_⟩
  rw [ed, he] at hx5
  have ex5 : x5.toNat = 400 * d + e0 := by omega
  have b6 : -10000000000000 ≤ x6 ∧ x6 ≤ 10000000000000 := by
    have k1 : y1 * z 47 ≤ y1 * 9999 := Int.mul_le_mul_of_nonneg_left h47.2 (by omega)
    have k2 : y1 * (-9999) ≤ y1 * z 47 := Int.mul_le_mul_of_nonneg_left h47.1 (by omega)
    omega
  have b8 : 1 ≤ x8 ∧ x8 ≤ 10000000000000 := by
    have k1 : y3 * z 48 ≤ y3 * 9999 := Int.mul_le_mul_of_nonneg_left h48.2 (by omega)
    have k2 : y3 * 1 ≤ y3 * z 48 := Int.mul_le_mul_of_nonneg_left h48.1 (by omega)
    omega
  refine wq_divisor (by omega) (by omega) (fun r r1 ra rb => ?_)
  have rr := Int.le_of_dvd (by omega) rb
  obtain ⟨a1, -⟩ := mo_divn r1 ra
  obtain ⟨c1, c2⟩ := mo_divn r1 rb
  have c3 := c2 b8.1
  refine ⟨by omega, ⟨by omega, by omega⟩, ⟨by omega, by omega⟩, ⟨by omega, by omega⟩, fun C13 h13 => ⟨by omega, ⟨by omega, by omega⟩, ⟨by omega, by omega⟩, ⟨by omega, by omega⟩, fun C14 h14 => ⟨⟨by omega, by omega⟩, ⟨by omega, by omega⟩, fun C15 h15 => ?_⟩⟩⟩
  have e24 : C14 24 d = (f : Int) := by rw [h14, hb_s_other (by decide), h13, hb_s_other (by decide)]; exact hf
  rw [ed, e24] at h15
  have base : ∀ k, k ≠ 17 → k ≠ 18 → k ≠ 20 → C15 k = B k := fun k a b c => by rw [h15, hb_s_other c, h14, hb_s_other b, h13, hb_s_other a]
  have f17 : ∀ i, C15 17 i = if i = 400 * d + e0 then x6.tdiv r else B 17 i := fun i => by
    rw [h15, hb_s_other (by decide), h14, hb_s_other (by decide), h13, lq_s_fun]
    unfold hz_u
    rw [ex5]
  have f18 : ∀ i, C15 18 i = if i = 400 * d + e0 then x8.tdiv r else B 18 i := fun i => by
    rw [h15, hb_s_other (by decide), h14, lq_s_fun]
    unfold hz_u
    rw [ex5, h13, hb_s_other (by decide)]
  have f20 : ∀ i, C15 20 i = if i = 400 * d + e0 then ((8000 * d + f : Nat) : Int) else B 20 i := fun i => by
    rw [h15, lq_s_fun]
    unfold hz_u
    rw [ex5, h14, hb_s_other (by decide), h13, hb_s_other (by decide)]
    split <;> (try rfl)
    omega
  intro P hP
  have key : ∀ (k j : Nat) (C : Nat → Nat → Int), o - j = k → j ≤ o → (∀ k, k ≠ 22 → k ≠ 23 → k ≠ 24 → C k = C15 k) → C 24 d = (f : Int) + go_a B j → (∀ w : Nat, (w < 8000 * d + f ∨ 8000 * d + f + go_a B j ≤ w) → C 22 w = B 22 w ∧ C 23 w = B 23 w) → (∀ q, q < go_a B j → ∃ i, i < j ∧ B 38 i ≠ 63 ∧ go_a B i = q ∧ C 22 (8000 * d + f + q) = B 39 i ∧ C 23 (8000 * d + f + q) = B 40 i) → P C (j : Int) := by
    intro k
    induction k with
    | zero =>
      intro j C hk' hj hC h24 hout hin
      have ej : j = o := by omega
      subst ej
      have hle := go_a_le B j
      refine hP C _ ⟨⟨by omega, by omega⟩, ⟨by omega, by omega⟩, fun _ => ⟨⟨by omega, by omega⟩, ⟨by omega, by omega⟩, ⟨by omega, by omega⟩, fun C3 h3 => ⟨⟨by omega, by omega⟩, ⟨by omega, by omega⟩, fun C4 h4 => ?_⟩⟩, fun c => by omega⟩
      have e20 : C 20 (400 * d + e0) = ((8000 * d + f : Nat) : Int) := by rw [hC 20 (by decide) (by decide) (by decide), f20, if_pos rfl]
      rw [ed, ex5, h24, e20] at h3
      have e14 : C3 14 d = (e0 : Int) := by rw [h3, hb_s_other (by decide), hC 14 (by decide) (by decide) (by decide), base 14 (by decide) (by decide) (by decide)]; exact he
      rw [ed, e14] at h4
      refine hQ C4 (x6.tdiv r) (x8.tdiv r) (fun k a b c e g h i l => ?_) (fun i => ?_) ?_ (by omega) (by omega) (fun i => ?_) (fun i => ?_) (fun i => ?_) (fun i => ?_) (fun w hw => ?_) (fun q hq => ?_)
      · rw [h4, hb_s_other a, h3, hb_s_other g, hC k h i l, base k b c e]
      · rw [h4, lq_s_fun]
        unfold hz_u
        rw [ed, h3, hb_s_other (by decide), hC 14 (by decide) (by decide) (by decide), base 14 (by decide) (by decide) (by decide)]
      · rw [h4, hb_s_other (by decide), h3, hb_s_other (by decide)]
        exact h24
      · rw [h4, hb_s_other (by decide), h3, hb_s_other (by decide), hC 17 (by decide) (by decide) (by decide)]
        exact f17 i
      · rw [h4, hb_s_other (by decide), h3, hb_s_other (by decide), hC 18 (by decide) (by decide) (by decide)]
        exact f18 i
      · rw [h4, hb_s_other (by decide), h3, hb_s_other (by decide), hC 20 (by decide) (by decide) (by decide)]
        exact f20 i
      · rw [h4, hb_s_other (by decide), h3, lq_s_fun]
        unfold hz_u
        rw [ex5, hC 21 (by decide) (by decide) (by decide), base 21 (by decide) (by decide) (by decide)]
        split <;> (try rfl)
        omega
      · rw [h4, hb_s_other (by decide), hb_s_other (by decide), h3, hb_s_other (by decide), hb_s_other (by decide)]
        exact hout w hw
      · rw [h4, hb_s_other (by decide), hb_s_other (by decide), h3, hb_s_other (by decide), hb_s_other (by decide)]
        exact hin q hq
    | succ k ih =>
      intro j C hk' hj hC h24 hout hin
      have hle := go_a_le B j
      have ej : ((j : Int)).toNat = j := by omega
      have e38 : C 38 = B 38 := by rw [hC 38 (by decide) (by decide) (by decide), base 38 (by decide) (by decide) (by decide)]
      have e39 : C 39 = B 39 := by rw [hC 39 (by decide) (by decide) (by decide), base 39 (by decide) (by decide) (by decide)]
      have e40 : C 40 = B 40 := by rw [hC 40 (by decide) (by decide) (by decide), base 40 (by decide) (by decide) (by decide)]
      have hkj := hk j (by omega)
      refine hP C _ ⟨⟨by omega, by omega⟩, ⟨by omega, by omega⟩, fun c => by omega, fun _ => ⟨⟨by omega, by omega⟩, ?_⟩⟩
      rw [ej, e38, e39, ed, h24]
      refine ⟨⟨by omega, by omega⟩, fun dr x hx => ?_, fun nd => ⟨⟨by omega, by omega⟩, ⟨by omega, by omega⟩, ⟨by omega, by omega⟩, fun C6 h6 => ⟨⟨by omega, by omega⟩, ⟨by omega, by omega⟩, ?_⟩⟩⟩
      · have ex : x = ((j + 1 : Nat) : Int) := by omega
        have ea : go_a B (j + 1) = go_a B j := by
          simp only [go_a]
          rw [if_neg (by simp [dr])]
          rfl
        rw [ex]
        refine ih (j + 1) C (by omega) (by omega) hC (by rw [ea]; exact h24) (by rw [ea]; exact hout) (fun q hq => ?_)
        rw [ea] at hq
        obtain ⟨i, i1, i2⟩ := hin q hq
        exact ⟨i, by omega, i2⟩
      · have ea : go_a B (j + 1) = go_a B j + 1 := by
          simp only [go_a]
          rw [if_pos nd]
        have g24 : C6 24 d = (f : Int) + go_a B j := by rw [h6, hb_s_other (by decide)]; exact h24
        have g40 : C6 40 = B 40 := by rw [h6, hb_s_other (by decide)]; exact e40
        rw [g24, g40]
        refine ⟨⟨by omega, by omega⟩, fun C7 h7 => ⟨⟨by omega, by omega⟩, ⟨by omega, by omega⟩, fun C8 h8 x hx => ?_⟩⟩
        have ei : (8000 * z 33 + ((f : Int) + go_a B j)).toNat = 8000 * d + f + go_a B j := by omega
        have g22 : ∀ w, C8 22 w = if w = 8000 * d + f + go_a B j then B 39 j else C 22 w := fun w => by
          rw [h8, hb_s_other (by decide), h7, hb_s_other (by decide), h6, lq_s_fun]
          unfold hz_u
          rw [ei]
        have g23 : ∀ w, C8 23 w = if w = 8000 * d + f + go_a B j then B 40 j else C 23 w := fun w => by
          rw [h8, hb_s_other (by decide), h7, lq_s_fun]
          unfold hz_u
          rw [ei, h6, hb_s_other (by decide)]
        have k24 : C8 24 d = (f : Int) + (go_a B (j + 1) : Nat) := by
          have q : C7 24 d = (f : Int) + go_a B j := by rw [h7, hb_s_other (by decide)]; exact g24
          rw [h8, lq_s_fun]
          unfold hz_u
          rw [ed, if_pos rfl, q, ea]
          omega
        have ex : x = ((j + 1 : Nat) : Int) := by omega
        rw [ex]
        refine ih (j + 1) C8 (by omega) (by omega) (fun k a b c => by rw [h8, hb_s_other c, h7, hb_s_other b, h6, hb_s_other a]; exact hC k a b c) k24 (fun w hw => ?_) (fun q hq => ?_)
        · rw [g22, g23, if_neg (by omega), if_neg (by omega)]
          exact hout w (by omega)
        · rw [ea] at hq
          by_cases eq : q = go_a B j
          · refine ⟨j, by omega, nd, eq.symm, ?_, ?_⟩
            · rw [g22, if_pos (by omega)]
            · rw [g23, if_pos (by omega)]
          · obtain ⟨i, i1, i2, i3, i4, i5⟩ := hin q (by omega)
            refine ⟨i, by omega, i2, i3, ?_, ?_⟩
            · rw [g22, if_neg (by omega)]
              exact i4
            · rw [g23, if_neg (by omega)]
              exact i5
  refine key _ 0 C15 rfl (by omega) (fun _ _ _ _ => rfl) ?_ (fun w _ => ?_) (fun q hq => by simp [go_a] at hq)
  · rw [base 24 (by decide) (by decide) (by decide), hf]
    simp [go_a]
  · rw [base 22 (by decide) (by decide) (by decide), base 23 (by decide) (by decide) (by decide)]
    exact ⟨rfl, rfl⟩
/-- nothing but the draft's part of the arrays is changed -/
noncomputable def mz_R (d : Nat) (A B : Nat → Nat → Int) : Prop :=
  (∀ k, (k < 13 ∨ 31 < k) → (k < 37 ∨ 44 < k) → B k = A k) ∧ (∀ i, i ≠ d → B 14 i = A 14 i ∧ B 25 i = A 25 i) ∧ (∀ i, i ≠ 2 * d → i ≠ 2 * d + 1 → B 26 i = A 26 i) ∧ (∀ i, (i < 20 * d ∨ 20 * d + 20 ≤ i) → B 28 i = A 28 i) ∧ (∀ i, (i < 400 * d ∨ 400 * d + 400 ≤ i) → B 19 i = A 19 i ∧ B 20 i = A 20 i ∧ B 21 i = A 21 i) ∧ (∀ i, (i < 8000 * d ∨ 8000 * d + 8000 ≤ i) → B 22 i = A 22 i ∧ B 23 i = A 23 i)
theorem mz_R_refl (d : Nat) (A : Nat → Nat → Int) : mz_R d A A := ⟨fun _ _ _ => rfl, fun _ _ => ⟨rfl, rfl⟩, fun _ _ _ => rfl, fun _ _ => rfl, fun _ _ => ⟨rfl, rfl, rfl⟩, fun _ _ => ⟨rfl, rfl⟩⟩
theorem mz_R_trans {d : Nat} {A B C : Nat → Nat → Int} (h1 : mz_R d A B) (h2 : mz_R d B C) : mz_R d A C :=
  ⟨fun k a b => (h2.1 k a b).trans (h1.1 k a b), fun i a => ⟨(h2.2.1 i a).1.trans (h1.2.1 i a).1, (h2.2.1 i a).2.trans (h1.2.1 i a).2⟩, fun i a b => (h2.2.2.1 i a b).trans (h1.2.2.1 i a b), fun i a => (h2.2.2.2.1 i a).trans (h1.2.2.2.1 i a),
   fun i a => ⟨(h2.2.2.2.2.1 i a).1.trans (h1.2.2.2.2.1 i a).1, (h2.2.2.2.2.1 i a).2.1.trans (h1.2.2.2.2.1 i a).2.1, (h2.2.2.2.2.1 i a).2.2.trans (h1.2.2.2.2.1 i a).2.2⟩, fun i a => ⟨(h2.2.2.2.2.2 i a).1.trans (h1.2.2.2.2.2 i a).1, (h2.2.2.2.2.2 i a).2.trans (h1.2.2.2.2.2 i a).2⟩⟩
/-- .. the game that stands is as it was -/
theorem mz_R_G {d g : Nat} {A B : Nat → Nat → Int} (hd : d < 2) (hg : g < 2) (hgd : g ≠ d) (h : mz_R d A B) (hG : mg_G A g) (hD : mg_D A g) : mg_G B g ∧ mg_D B g := by
  obtain ⟨-, r14, r26, r28, r19, r22⟩ := h
  obtain ⟨⟨⟨n0, n1⟩, hE⟩, hS0, hS1, p0, p1, c⟩ := hG
  have e14 := (r14 g hgd).1
  have e25 := (r14 g hgd).2
  have e26 : ∀ p, p < 2 → B 26 (2 * g + p) = A 26 (2 * g + p) := fun p hp => r26 _ (by omega) (by omega)
  have e28 : ∀ p s, p < 2 → s < 10 → B 28 (20 * g + (10 * p + s)) = A 28 (20 * g + (10 * p + s)) := fun p s hp hs => r28 _ (by omega)
  have epp : ∀ p n, p < 2 → n ≤ 10 → lq_pp B g p n = lq_pp A g p n := fun p n hp hn => by
    induction n with
    | zero => rfl
    | succ n ih => simp only [lq_pp]; rw [ih (by omega), e28 p n hp (by omega)]
  have ex : ∀ e : Nat, (e : Int) < A 14 g → B 19 (400 * g + e) = A 19 (400 * g + e) ∧ B 20 (400 * g + e) = A 20 (400 * g + e) ∧ B 21 (400 * g + e) = A 21 (400 * g + e) := fun e he => r19 _ (by omega)
  have ew : ∀ e : Nat, (e : Int) < A 14 g → ∀ w : Nat, A 20 (400 * g + e) ≤ w → (w : Int) < A 20 (400 * g + e) + A 21 (400 * g + e) → B 22 w = A 22 w ∧ B 23 w = A 23 w := fun e he w w0 w1 => r22 w (by have := hD.1 e he; omega)
  have hS : ∀ p, p < 2 → mg_S A g p → mg_S B g p := fun p hp ⟨a, b⟩ => by
    refine ⟨by rw [e26 p hp]; exact a, fun s hs => ?_⟩
    rw [e26 p hp] at hs
    rw [e28 p s hp (by omega)]
    exact b s hs
  refine ⟨⟨⟨by rw [e14]; exact ⟨n0, n1⟩, fun e he => ?_⟩, hS 0 (by decide) hS0, hS 1 (by decide) hS1, ?_, ?_, by rw [e25]; exact c⟩, fun e he => ?_, fun e he v w v0 vw w1 => ?_⟩
  · rw [e14] at he
    obtain ⟨x1, x2, x3⟩ := ex e he
    rw [x1, x2, x3]
    obtain ⟨y1, y2, y3⟩ := hE e he
    refine ⟨y1, y2, fun w w0 w1 => ?_⟩
    obtain ⟨u1, u2⟩ := ew e he w w0 w1
    rw [u1, u2]
    exact y3 w w0 w1
  · rw [e26 0 (by decide), epp 0 _ (by decide) (by have := hS0.1; omega)]
    exact p0
  · rw [e26 1 (by decide), epp 1 _ (by decide) (by have := hS1.1; omega)]
    exact p1
  · rw [e14] at he
    obtain ⟨x1, x2, x3⟩ := ex e he
    rw [x2, x3]
    exact hD.1 e he
  · rw [e14] at he
    obtain ⟨x1, x2, x3⟩ := ex e he
    rw [x2] at v0
    rw [x2, x3] at w1
    rw [(ew e he v v0 (by omega)).1, (ew e he w (by omega) w1).1]
    exact hD.2 e he v w v0 vw w1

-- 56.begin
noncomputable def go_C (B : Nat → Nat → Int) (d : Nat) : Prop := (0 ≤ B 14 d ∧ B 14 d ≤ B 13 d ∧ B 13 d ≤ 400) ∧ 0 ≤ B 24 d ∧ B 24 d ≤ 20 * B 14 d
noncomputable def go_N (B : Nat → Nat → Int) (o : Nat) (c : Int) : Prop := ∀ j, j < o → (0 ≤ B 37 j ∧ B 37 j < 4001) ∧ (B 38 j = 63 ∨ B 38 j = 65 ∨ B 38 j = 66) ∧ (-1 ≤ B 40 j ∧ B 40 j + 1 ≤ c) ∧ (1 ≤ B 41 j ∧ B 41 j ≤ B 42 j ∧ B 42 j < 1000000000)
noncomputable def go_H (B : Nat → Nat → Int) (o : Nat) : Prop := ∀ j, j < o → B 38 j = 63 → ∀ i : Nat, i < 8 → (i : Int) ≤ B 40 j → (1 ≤ B 44 (9 * j + i) ∧ B 44 (9 * j + i) ≤ 9999) ∧ (0 ≤ B 43 (9 * j + i) ∧ B 43 (9 * j + i) ≤ 9999)
noncomputable def go_Z (B : Nat → Nat → Int) (d o : Nat) (x : Int) : Prop := ∀ p, p < 2 → ∀ s : Nat, (s : Int) < B 26 (2 * d + p) → B 28 (20 * d + (10 * p + s)) = 0 → ((10 * p + s : Nat) : Int) = x ∨ ∃ j, j < o ∧ B 38 j ≠ 63 ∧ B 39 j = ((10 * p + s : Nat) : Int)
noncomputable def go_E (B : Nat → Nat → Int) (d o : Nat) : Prop := ∀ e : Nat, (e : Int) < B 14 d → (8000 * (d : Int) ≤ B 20 (400 * d + e) ∧ 0 ≤ B 21 (400 * d + e) ∧ B 20 (400 * d + e) + B 21 (400 * d + e) ≤ 8000 * (d : Int) + B 24 d) ∧ (-10000000000000 ≤ B 17 (400 * d + e) ∧ B 17 (400 * d + e) ≤ 10000000000000) ∧ (1 ≤ B 18 (400 * d + e) ∧ B 18 (400 * d + e) ≤ 10000000000000) ∧
  (∀ w : Nat, B 20 (400 * d + e) ≤ w → (w : Int) < B 20 (400 * d + e) + B 21 (400 * d + e) → (0 ≤ B 22 w ∧ B 22 w < 20) ∧ 0 ≤ B 23 w ∧ (B 23 w < 4 ∨ ∃ j, j < o ∧ B 38 j ≠ 63 ∧ 4 ≤ B 40 j)) ∧ (∀ v w : Nat, B 20 (400 * d + e) ≤ v → v < w → (w : Int) < B 20 (400 * d + e) + B 21 (400 * d + e) → B 22 v ≠ B 22 w)
noncomputable def go_G (B : Nat → Nat → Int) (d o : Nat) (c x : Int) : Prop := go_N B o c ∧ go_S B d ∧ go_T B d o ∧ go_P B d o ∧ go_H B o ∧ go_Z B d o x ∧ go_E B d o
theorem go_keep {B C : Nat → Nat → Int} {d o : Nat} {c x : Int} (h : ∀ k, k ≠ 13 → k ≠ 15 → k ≠ 16 → C k = B k) (hG : go_G B d o c x) : go_G C d o c x := by
  have e : ∀ k, 16 < k → C k = B k := fun k hk => h k (by omega) (by omega) (by omega)
  have e14 := h 14 (by decide) (by decide) (by decide)
  have ec : ∀ p j, go_c C p j = go_c B p j := fun p j => go_c_congr p j (fun i _ => by rw [e 38 (by decide), e 39 (by decide)]; exact ⟨rfl, rfl⟩)
  unfold go_G go_N go_S go_T go_P go_H go_Z go_E at *
  simp only [ec]
  rw [e 17 (by decide), e 18 (by decide), e 20 (by decide), e 21 (by decide), e 22 (by decide), e 23 (by decide), e 24 (by decide), e 26 (by decide), e 27 (by decide), e 28 (by decide), e 29 (by decide), e 30 (by decide), e 31 (by decide), e 37 (by decide), e 38 (by decide), e 39 (by decide), e 40 (by decide), e 41 (by decide), e 42 (by decide), e 43 (by decide), e 44 (by decide), e14]
  exact hG
/-- what is wanted behind the open nodes -/
noncomputable def go_l (B : Nat → Nat → Int) : Nat → List Int
  | 0 => [0]
  | j + 1 => (if B 38 j = 63 then 304 else 305) :: 41 :: go_l B j
theorem go_l_congr {B C : Nat → Nat → Int} (o : Nat) (h : ∀ j, j < o → C 38 j = B 38 j) : go_l C o = go_l B o := by
  induction o with
  | zero => rfl
  | succ o ih => simp only [go_l]; rw [ih (fun j hj => h j (by omega)), h o (by omega)]
noncomputable def go_W (d : Nat) (A : Nat → Nat → Int) (z z' : Nat → Int) (C : Nat → Nat → Int) : Prop := (∀ q, q ≠ 35 → q ≠ 36 → q ≠ 45 → q ≠ 46 → q ≠ 47 → q ≠ 48 → z' q = z q) ∧ (0 ≤ z' 45 ∧ z' 45 ≤ 22) ∧ hz_rI (z' 35) ∧ mz_R d A C
noncomputable def go_I (t : Nat → Int) (d : Nat) (z' : Nat → Int) (C : Nat → Nat → Int) (k0 : Nat) : Prop := ∃ o k : Nat, z' 45 = (o : Int) ∧ z' 46 = (k : Int) ∧ k0 < k ∧ o ≤ 21 ∧ go_C C d ∧ go_G C d o (C 13 d) (-1) ∧ (∀ j, j + 1 < o → 0 ≤ C 40 j) ∧
  ((o = 0 ∧ ma_A t k [0]) ∨ ∃ j, o = j + 1 ∧ ((0 ≤ C 40 j ∧ ma_A t k (go_l C o)) ∨ (C 40 j = -1 ∧ ma_A t k ((if C 38 j = 63 then 303 else 300) :: go_l C o))))
/-- a new set beside the known ones -/
theorem go_new {B C : Nat → Nat → Int} {d o p s : Nat} {c told : Int} (hp : p < 2) (hs : (s : Int) = B 26 (2 * d + p)) (hs10 : s < 10) (ht : 0 ≤ told ∧ told ≤ 9999) (hC : ∀ k, k ≠ 26 → k ≠ 27 → k ≠ 28 → k ≠ 29 → C k = B k) (h26 : ∀ i, C 26 i = if i = 2 * d + p then (s : Int) + 1 else B 26 i) (h27 : ∀ i, C 27 i = if i = 20 * d + (10 * p + s) then told else B 27 i) (h28 : ∀ i, C 28 i = if i = 20 * d + (10 * p + s) then 0 else B 28 i) (h29 : ∀ i, C 29 i = if i = 20 * d + (10 * p + s) then -1 else B 29 i) (hG : go_G B d o c (-1)) : go_G C d o c ((10 * p + s : Nat) : Int) := by
  obtain ⟨hN, hS, hT, hP, hH, hZ, hE⟩ := hG
  have ec : ∀ p j, go_c C p j = go_c B p j := fun p j => go_c_congr p j (fun i _ => by rw [hC 38 (by decide) (by decide) (by decide) (by decide), hC 39 (by decide) (by decide) (by decide) (by decide)]; exact ⟨rfl, rfl⟩)
  -- known sets are others
  have oth : ∀ p' s' : Nat, p' < 2 → s' < 10 → (s' : Int) < B 26 (2 * d + p') → 20 * d + (10 * p' + s') ≠ 20 * d + (10 * p + s) := by
    intro p' s' hp' hs' h e
    have : p' = p ∧ s' = s := by omega
    rw [this.1, this.2] at h
    omega
  have m26 : ∀ p', p' < 2 → B 26 (2 * d + p') ≤ C 26 (2 * d + p') := fun p' hp' => by
    rw [h26]
    split
    · next e =>
      have : p' = p := by omega
      subst this
      omega
    · exact Int.le_refl _
  refine ⟨?_, fun p' hp' => ?_, fun j hj nd => ?_, fun j hj nd => ?_, ?_, fun p' hp' s' hs' h0 => ?_, ?_⟩
  · unfold go_N at *
    rw [hC 37 (by decide) (by decide) (by decide) (by decide), hC 38 (by decide) (by decide) (by decide) (by decide), hC 40 (by decide) (by decide) (by decide) (by decide), hC 41 (by decide) (by decide) (by decide) (by decide), hC 42 (by decide) (by decide) (by decide) (by decide)]
    exact hN
  · obtain ⟨⟨a0, a1⟩, hs2⟩ := hS p' hp'
    refine ⟨?_, fun s' hs' => ?_⟩
    · rw [h26]
      split <;> omega
    · rw [hC 30 (by decide) (by decide) (by decide) (by decide), hC 31 (by decide) (by decide) (by decide) (by decide), h27, h28, h29]
      by_cases e : p' = p ∧ s' = s
      · rw [e.1, e.2, if_pos rfl, if_pos rfl, if_pos rfl]
        exact ⟨ht, by omega, by omega, fun q hq => by omega⟩
      · have hlt : (s' : Int) < B 26 (2 * d + p') := by
          rw [h26] at hs'
          split at hs'
          · next e2 =>
            have : p' = p := by omega
            subst this
            omega
          · exact hs'
        have hne := oth p' s' hp' (by omega) hlt
        rw [if_neg hne, if_neg hne, if_neg hne]
        exact hs2 s' hlt
  · rw [hC 38 (by decide) (by decide) (by decide) (by decide)] at nd
    rw [hC 39 (by decide) (by decide) (by decide) (by decide)]
    obtain ⟨p', s', a, b, c', e⟩ := hT j hj nd
    have := m26 p' a
    exact ⟨p', s', a, b, c', by omega⟩
  · rw [hC 38 (by decide) (by decide) (by decide) (by decide)] at nd
    obtain ⟨p', s', a, b, c', e⟩ := hT j hj nd
    have h1 := hP j hj nd
    rw [hC 39 (by decide) (by decide) (by decide) (by decide), ec, h29]
    have e2 : (B 39 j).toNat = 10 * p' + s' := by omega
    rw [e2] at h1 ⊢
    rw [if_neg (oth p' s' a c' e)]
    exact h1
  · unfold go_H at *
    rw [hC 38 (by decide) (by decide) (by decide) (by decide), hC 40 (by decide) (by decide) (by decide) (by decide), hC 43 (by decide) (by decide) (by decide) (by decide), hC 44 (by decide) (by decide) (by decide) (by decide)]
    exact hH
  · by_cases e : p' = p ∧ s' = s
    · rw [e.1, e.2]
      exact Or.inl rfl
    · have hlt : (s' : Int) < B 26 (2 * d + p') := by
        rw [h26] at hs'
        split at hs'
        · next e2 =>
          have : p' = p := by omega
          subst this
          omega
        · exact hs'
      have h10 : s' < 10 := by have := (hS p' hp').1; omega
      rw [h28, if_neg (oth p' s' hp' h10 hlt)] at h0
      rw [hC 38 (by decide) (by decide) (by decide) (by decide), hC 39 (by decide) (by decide) (by decide) (by decide)]
      rcases hZ p' hp' s' hlt h0 with h | h
      · omega
      · exact Or.inr h
  · unfold go_E at *
    rw [hC 14 (by decide) (by decide) (by decide) (by decide), hC 17 (by decide) (by decide) (by decide) (by decide), hC 18 (by decide) (by decide) (by decide) (by decide), hC 20 (by decide) (by decide) (by decide) (by decide), hC 21 (by decide) (by decide) (by decide) (by decide), hC 22 (by decide) (by decide) (by decide) (by decide), hC 23 (by decide) (by decide) (by decide) (by decide), hC 24 (by decide) (by decide) (by decide) (by decide), hC 38 (by decide) (by decide) (by decide) (by decide), hC 40 (by decide) (by decide) (by decide) (by decide)]
    exact hE
/-- a node more that is open -/
theorem go_push {B C : Nat → Nat → Int} {d o : Nat} {c x kd st wd tp bt : Int} (hC : ∀ k, k ≠ 15 → k ≠ 16 → k ≠ 29 → k ≠ 30 → k ≠ 31 → (k < 37 ∨ 42 < k) → C k = B k) (h37 : ∀ j, C 37 j = if j = o then wd else B 37 j) (h38 : ∀ j, C 38 j = if j = o then kd else B 38 j) (h39 : ∀ j, C 39 j = if j = o then st else B 39 j) (h40 : ∀ j, C 40 j = if j = o then -1 else B 40 j) (h41 : ∀ j, C 41 j = if j = o then tp else B 41 j) (h42 : ∀ j, C 42 j = if j = o then bt else B 42 j)
    (hc : 0 ≤ c) (hwd : 0 ≤ wd ∧ wd < 4001) (hkd : kd = 63 ∨ kd = 65 ∨ kd = 66) (htp : 1 ≤ tp ∧ tp ≤ bt ∧ bt < 1000000000) (hS : go_S C d) (hst : kd ≠ 63 → ∃ p s : Nat, p < 2 ∧ st = ((10 * p + s : Nat) : Int) ∧ s < 10 ∧ (s : Int) < B 26 (2 * d + p))
    (h29 : ∀ j, j < o → B 38 j ≠ 63 → C 29 (20 * d + (B 39 j).toNat) = go_c B (B 39 j / 10) j) (h29' : kd ≠ 63 → C 29 (20 * d + st.toNat) = go_c B (st / 10) o) (hx : x = -1 ∨ (x = st ∧ kd ≠ 63)) (hG : go_G B d o c x) : go_G C d (o + 1) c (-1) := by
  obtain ⟨hN, -, hT, hP, hH, hZ, hE⟩ := hG
  have ec : ∀ p j, j ≤ o → go_c C p j = go_c B p j := fun p j hj => go_c_congr p j (fun i hi => by rw [h38, h39, if_neg (by omega), if_neg (by omega)]; exact ⟨rfl, rfl⟩)
  have e26 : C 26 = B 26 := hC 26 (by decide) (by decide) (by decide) (by decide) (by decide) (by decide)
  have e28 : C 28 = B 28 := hC 28 (by decide) (by decide) (by decide) (by decide) (by decide) (by decide)
  refine ⟨fun j hj => ?_, hS, fun j hj nd => ?_, fun j hj nd => ?_, fun j hj dr i hi hi2 => ?_, fun p hp s hs h0 => ?_, ?_⟩
  · rw [h37, h38, h40, h41, h42]
    by_cases e : j = o
    · simp only [if_pos e]
      exact ⟨hwd, hkd, by omega, htp⟩
    · simp only [if_neg e]
      exact hN j (by omega)
  · rw [h38] at nd
    rw [h39, e26]
    by_cases e : j = o
    · rw [if_pos e] at nd ⊢
      exact hst nd
    · rw [if_neg e] at nd ⊢
      exact hT j (by omega) nd
  · rw [h38] at nd
    rw [h39, ec _ j (by omega)]
    by_cases e : j = o
    · rw [if_pos e] at nd ⊢
      rw [e]
      exact h29' nd
    · rw [if_neg e] at nd ⊢
      exact h29 j (by omega) nd
  · rw [h38] at dr
    rw [h40] at hi2
    rw [hC 43 (by decide) (by decide) (by decide) (by decide) (by decide) (by decide), hC 44 (by decide) (by decide) (by decide) (by decide) (by decide) (by decide)]
    by_cases e : j = o
    · rw [if_pos e] at hi2
      omega
    · rw [if_neg e] at dr hi2
      exact hH j (by omega) dr i hi hi2
  · rw [e26] at hs
    rw [e28] at h0
    refine Or.inr ?_
    rcases hZ p hp s hs h0 with h | ⟨j, j1, j2, j3⟩
    · rcases hx with h1 | ⟨h1, h2⟩
      · omega
      · exact ⟨o, by omega, by rw [h38, if_pos rfl]; exact h2, by rw [h39, if_pos rfl, ← h1]; exact h.symm⟩
    · exact ⟨j, by omega, by rw [h38, if_neg (by omega)]; exact j2, by rw [h39, if_neg (by omega)]; exact j3⟩
  · intro e he
    have g : ∀ k, k = 14 ∨ k = 17 ∨ k = 18 ∨ k = 20 ∨ k = 21 ∨ k = 22 ∨ k = 23 ∨ k = 24 → C k = B k := fun k hk => hC k (by omega) (by omega) (by omega) (by omega) (by omega) (by omega)
    rw [g 14 (by decide)] at he
    obtain ⟨a, b, c', f, i⟩ := hE e he
    rw [g 17 (by decide), g 18 (by decide), g 20 (by decide), g 21 (by decide), g 22 (by decide), g 23 (by decide), g 24 (by decide)]
    refine ⟨a, b, c', fun w w0 w1 => ?_, i⟩
    obtain ⟨q1, q2, q3⟩ := f w w0 w1
    refine ⟨q1, q2, ?_⟩
    rcases q3 with h | ⟨j, j1, j2, j3⟩
    · exact Or.inl h
    · exact Or.inr ⟨j, by omega, by rw [h38, if_neg (by omega)]; exact j2, by rw [h40, if_neg (by omega)]; exact j3⟩
/-- an end more -/
theorem go_end {B C : Nat → Nat → Int} {d o e0 f : Nat} {c t b : Int} (ho : o ≤ 20) (he : B 14 d = (e0 : Int)) (hf : B 24 d = (f : Int)) (hC : ∀ k, k ≠ 14 → k ≠ 17 → k ≠ 18 → k ≠ 20 → k ≠ 21 → k ≠ 22 → k ≠ 23 → k ≠ 24 → C k = B k) (h14 : ∀ i, C 14 i = if i = d then (e0 : Int) + 1 else B 14 i) (h24 : C 24 d = (f : Int) + go_a B o) (ht : -10000000000000 ≤ t ∧ t ≤ 10000000000000) (hb : 1 ≤ b ∧ b ≤ 10000000000000)
    (h17 : ∀ i, C 17 i = if i = 400 * d + e0 then t else B 17 i) (h18 : ∀ i, C 18 i = if i = 400 * d + e0 then b else B 18 i) (h20 : ∀ i, C 20 i = if i = 400 * d + e0 then ((8000 * d + f : Nat) : Int) else B 20 i) (h21 : ∀ i, C 21 i = if i = 400 * d + e0 then ((go_a B o : Nat) : Int) else B 21 i)
    (hout : ∀ w : Nat, (w < 8000 * d + f ∨ 8000 * d + f + go_a B o ≤ w) → C 22 w = B 22 w ∧ C 23 w = B 23 w) (hin : ∀ q, q < go_a B o → ∃ j, j < o ∧ B 38 j ≠ 63 ∧ go_a B j = q ∧ C 22 (8000 * d + f + q) = B 39 j ∧ C 23 (8000 * d + f + q) = B 40 j) (hmv : ∀ j, j < o → 0 ≤ B 40 j) (hG : go_G B d o c (-1)) : go_G C d o c (-1) := by
  obtain ⟨hN, hS, hT, hP, hH, hZ, hE⟩ := hG
  have e : ∀ k, 24 < k → C k = B k := fun k hk => hC k (by omega) (by omega) (by omega) (by omega) (by omega) (by omega) (by omega) (by omega)
  have ec : ∀ p j, go_c C p j = go_c B p j := fun p j => go_c_congr p j (fun i _ => by rw [e 38 (by decide), e 39 (by decide)]; exact ⟨rfl, rfl⟩)
  refine ⟨?_, ?_, ?_, ?_, ?_, ?_, ?_⟩
  · unfold go_N at *
    rw [e 37 (by decide), e 38 (by decide), e 40 (by decide), e 41 (by decide), e 42 (by decide)]
    exact hN
  · unfold go_S at *
    rw [e 26 (by decide), e 27 (by decide), e 28 (by decide), e 29 (by decide), e 30 (by decide), e 31 (by decide)]
    exact hS
  · unfold go_T at *
    rw [e 26 (by decide), e 38 (by decide), e 39 (by decide)]
    exact hT
  · unfold go_P at *
    simp only [ec]
    rw [e 29 (by decide), e 38 (by decide), e 39 (by decide)]
    exact hP
  · unfold go_H at *
    rw [e 38 (by decide), e 40 (by decide), e 43 (by decide), e 44 (by decide)]
    exact hH
  · unfold go_Z at *
    rw [e 26 (by decide), e 28 (by decide), e 38 (by decide), e 39 (by decide)]
    exact hZ
  · intro e1 he1
    rw [h14, if_pos rfl] at he1
    rw [e 38 (by decide), e 40 (by decide), h24]
    by_cases en : e1 = e0
    · subst en
      rw [h17, h18, h20, h21, if_pos rfl, if_pos rfl, if_pos rfl, if_pos rfl]
      refine ⟨by omega, ht, hb, fun w w0 w1 => ?_, fun v w v0 vw w1 => ?_⟩
      · obtain ⟨j, j1, j2, j3, j4, j5⟩ := hin (w - (8000 * d + f)) (by omega)
        have ew : 8000 * d + f + (w - (8000 * d + f)) = w := by omega
        rw [ew] at j4 j5
        rw [j4, j5]
        obtain ⟨p, s, p1, p2, p3, p4⟩ := hT j j1 j2
        have hm := hmv j j1
        refine ⟨by omega, hm, ?_⟩
        by_cases h4 : B 40 j < 4
        · exact Or.inl h4
        · exact Or.inr ⟨j, j1, j2, by omega⟩
      · obtain ⟨i, i1, i2, i3, i4, i5⟩ := hin (v - (8000 * d + f)) (by omega)
        obtain ⟨j, j1, j2, j3, j4, j5⟩ := hin (w - (8000 * d + f)) (by omega)
        have ev : 8000 * d + f + (v - (8000 * d + f)) = v := by omega
        have ew : 8000 * d + f + (w - (8000 * d + f)) = w := by omega
        rw [ev] at i4
        rw [ew] at j4
        rw [i4, j4]
        have hne : i ≠ j := fun h => by subst h; omega
        by_cases hij : i < j
        · exact go_dist hP hij j1 i2 j2
        · exact fun h => go_dist hP (show j < i by omega) i1 j2 i2 h.symm
    · rw [h17, h18, h20, h21, if_neg (by omega), if_neg (by omega), if_neg (by omega), if_neg (by omega)]
      obtain ⟨a, b', c', f', i'⟩ := hE e1 (by omega)
      rw [hf] at a
      refine ⟨by omega, b', c', fun w w0 w1 => ?_, fun v w v0 vw w1 => ?_⟩
      · obtain ⟨o1, o2⟩ := hout w (by omega)
        rw [o1, o2]
        exact f' w w0 w1
      · rw [(hout v (by omega)).1, (hout w (by omega)).1]
        exact i' v w v0 vw w1

-- 57.beginNode
theorem go_tok {d n : Nat} {A B : Nat → Nat → Int} (h : mz_R d A B) (hT : mc_T A n) : mc_T B n ∧ ma_t B n = ma_t A n := by
  have e7 := h.1 7 (by decide) (by decide)
  have e8 := h.1 8 (by decide) (by decide)
  have e9 := h.1 9 (by decide) (by decide)
  unfold mc_T mc_K ma_t at *
  rw [e7, e8, e9]
  exact ⟨hT, rfl⟩
theorem go_six {D A5 A6 A7 A8 A9 A10 : Nat → Nat → Int} {i a b c e f g : Int} {o : Nat} (hi : i = (o : Int)) (h5 : A5 = hz_s D 37 i a) (h6 : A6 = hz_s A5 38 i b) (h7 : A7 = hz_s A6 39 i c) (h8 : A8 = hz_s A7 40 i e) (h9 : A9 = hz_s A8 41 i f) (h10 : A10 = hz_s A9 42 i g) :
    (∀ q, (q < 37 ∨ 42 < q) → A10 q = D q) ∧ (∀ j, A10 37 j = if j = o then a else D 37 j) ∧ (∀ j, A10 38 j = if j = o then b else D 38 j) ∧ (∀ j, A10 39 j = if j = o then c else D 39 j) ∧ (∀ j, A10 40 j = if j = o then e else D 40 j) ∧ (∀ j, A10 41 j = if j = o then f else D 41 j) ∧ (∀ j, A10 42 j = if j = o then g else D 42 j) := by
  have ei : i.toNat = o := by omega
  have o5 : ∀ q, q ≠ 37 → A5 q = D q := fun q h => by rw [h5, hb_s_other h]
  have o6 : ∀ q, q ≠ 38 → A6 q = A5 q := fun q h => by rw [h6, hb_s_other h]
  have o7 : ∀ q, q ≠ 39 → A7 q = A6 q := fun q h => by rw [h7, hb_s_other h]
  have o8 : ∀ q, q ≠ 40 → A8 q = A7 q := fun q h => by rw [h8, hb_s_other h]
  have o9 : ∀ q, q ≠ 41 → A9 q = A8 q := fun q h => by rw [h9, hb_s_other h]
  have o10 : ∀ q, q ≠ 42 → A10 q = A9 q := fun q h => by rw [h10, hb_s_other h]
  refine ⟨fun q hq => ?_, fun j => ?_, fun j => ?_, fun j => ?_, fun j => ?_, fun j => ?_, fun j => ?_⟩
  · rw [o10 q (by omega), o9 q (by omega), o8 q (by omega), o7 q (by omega), o6 q (by omega), o5 q (by omega)]
  · rw [o10 37 (by decide), o9 37 (by decide), o8 37 (by decide), o7 37 (by decide), o6 37 (by decide), h5, lq_s_fun]
    unfold hz_u
    rw [ei]
  · rw [o10 38 (by decide), o9 38 (by decide), o8 38 (by decide), o7 38 (by decide), h6, lq_s_fun]
    unfold hz_u
    rw [ei, o5 38 (by decide)]
  · rw [o10 39 (by decide), o9 39 (by decide), o8 39 (by decide), h7, lq_s_fun]
    unfold hz_u
    rw [ei, o6 39 (by decide), o5 39 (by decide)]
  · rw [o10 40 (by decide), o9 40 (by decide), h8, lq_s_fun]
    unfold hz_u
    rw [ei, o7 40 (by decide), o6 40 (by decide), o5 40 (by decide)]
  · rw [o10 41 (by decide), h9, lq_s_fun]
    unfold hz_u
    rw [ei, o8 41 (by decide), o7 41 (by decide), o6 41 (by decide), o5 41 (by decide)]
  · rw [h10, lq_s_fun]
    unfold hz_u
    rw [ei, o9 42 (by decide), o8 42 (by decide), o7 42 (by decide), o6 42 (by decide), o5 42 (by decide)]
/-- what stays when only cells of the draft that no other game uses are changed -/
theorem go_R {d : Nat} {D C : Nat → Nat → Int} (h : ∀ q, (q < 13 ∨ 31 < q) → (q < 37 ∨ 44 < q) → C q = D q) (e : ∀ q, (q = 14 ∨ q = 25 ∨ q = 26 ∨ q = 28 ∨ q = 19 ∨ q = 20 ∨ q = 21 ∨ q = 22 ∨ q = 23) → C q = D q) : mz_R d D C :=
  ⟨h, fun i _ => by rw [e 14 (by decide), e 25 (by decide)]; exact ⟨rfl, rfl⟩, fun i _ _ => by rw [e 26 (by decide)], fun i _ => by rw [e 28 (by decide)], fun i _ => by rw [e 19 (by decide), e 20 (by decide), e 21 (by decide)]; exact ⟨rfl, rfl, rfl⟩, fun i _ => by rw [e 22 (by decide), e 23 (by decide)]; exact ⟨rfl, rfl⟩⟩
theorem go_opened {t : Nat → Int} {D C : Nat → Nat → Int} {d o k k' : Nat} {z' : Nat → Int} {kd : Int} (hC : go_C D d) (e13 : C 13 d = D 13 d) (e14 : C 14 d = D 14 d) (e24 : C 24 d = D 24 d) (h38 : ∀ j, C 38 j = if j = o then kd else D 38 j) (h40 : ∀ j, C 40 j = if j = o then -1 else D 40 j) (hG : go_G C d (o + 1) (D 13 d) (-1)) (ho2 : o ≤ 20) (hmv : ∀ j, j < o → 0 ≤ D 40 j) (h45 : z' 45 = ((o + 1 : Nat) : Int)) (h46 : z' 46 = (k' : Int)) (hk : k < k')
    (hA : ma_A t k' ((if kd = 63 then 303 else 300) :: (if kd = 63 then 304 else 305) :: 41 :: go_l D o)) : go_I t d z' C k := by
  refine ⟨o + 1, k', h45, h46, hk, by omega, ?_, by rw [e13]; exact hG, fun j hj => ?_, Or.inr ⟨o, rfl, Or.inr ⟨by rw [h40, if_pos rfl], ?_⟩⟩⟩
  · unfold go_C at *
    rw [e13, e14, e24]
    exact hC
  · rw [h40, if_neg (by omega)]
    exact hmv j (by omega)
  · have e : go_l C o = go_l D o := go_l_congr o (fun j hj => by rw [h38, if_neg (by omega)])
    simp only [go_l]
    rw [e, h38, if_pos rfl]
    exact hA
theorem wq_beginNode_121 {z : Nat → Int} {A D : Nat → Nat → Int} {d n o k : Nat} {y1 y3 kd st x : Int} {Q : (Nat → Int) → (Nat → Nat → Int) → Prop} (hd : d < 2) (hT : mc_T A n) (hR : mz_R d A D) (hz : z 33 = (d : Int)) (ho : z 45 = (o : Int)) (ho2 : o ≤ 20) (hk : z 46 = (k : Int)) (hf : z 35 = 0) (hC : go_C D d) (hlt : D 14 d < D 13 d) (hG : go_G D d o (D 13 d) x) (hmv : ∀ j, j < o → 0 ≤ D 40 j) (hA : ma_A (ma_t A n) k (300 :: go_l D o)) (hy : 1 ≤ y1 ∧ y1 ≤ y3 ∧ y3 ≤ 10000000000000) (hkd : kd = ma_t A n k)
    (hst : kd = 65 ∨ kd = 66 → ∃ p s : Nat, p < 2 ∧ st = ((10 * p + s : Nat) : Int) ∧ s < 10 ∧ (s : Int) < D 26 (2 * d + p)) (hx : x = -1 ∨ (x = st ∧ (kd = 65 ∨ kd = 66)))
    (hQ : ∀ z' C, go_W d A z z' C → (z' 35 ≠ 0 ∨ (z' 35 = 0 ∧ go_I (ma_t A n) d z' C k)) → Q z' C) : wp_beginNode_121 z D y1 y3 (k : Int) kd st Q := by
  obtain ⟨hT', ht'⟩ := go_tok hR hT
  have hn := hT.2.1
  have hf' : hz_rI (z 35) := by rw [hf]; exact ⟨by decide, by decide⟩
  have ed : (z 33).toNat = d := by omega
  obtain ⟨hN, hS, hTT, hP, hH, hZ, hE⟩ := hG
  obtain ⟨⟨c0, c1, c2⟩, c3, c4⟩ := hC
  have hkr : k < 4001 ∧ hz_rI kd := by
    have : ma_t A n k ≠ 0 ∧ ma_t A n k ≠ 2 ∧ hz_rI (ma_t A n k) := by
      rcases ma_node.mp hA with ⟨a, -⟩ | ⟨a, -⟩ | ⟨a | a, -⟩ <;> rw [a] <;> exact ⟨by decide, by decide, ⟨by decide, by decide⟩⟩
    have h1 := (mo_tok hT this.1 this.2.1).1
    exact ⟨by omega, by rw [hkd]; exact this.2.2⟩
  refine wq_divisor (by omega) (by omega) (fun r r1 ra rb => ?_)
  have rr := Int.le_of_dvd (by omega) rb
  obtain ⟨⟨m1, m2⟩, m3⟩ := mo_div r1 ra rb (by omega) hy.2.1
  refine ⟨by omega, ⟨by omega, by omega⟩, ⟨by omega, by omega⟩, ⟨by omega, by omega⟩, fun small => ⟨hkr.2, fun inner => ?_, fun leaf z19 hz19 => ?_⟩, fun _ => wq_stop (by decide) (by omega) hf' (fun z' h => hQ z' D ⟨fun q a b _ _ _ _ => h.1 q a b, by rw [h.1 45 (by decide) (by decide)]; omega, h.2.2, hR⟩ (Or.inl h.2.1))⟩
  · refine ⟨by omega, fun A5 h5 => ⟨by omega, fun A6 h6 => ⟨by omega, fun A7 h7 => ⟨by omega, fun A8 h8 => ⟨by omega, ⟨by omega, by omega⟩, ⟨by omega, by omega⟩, by omega, fun A9 h9 => ⟨by omega, ⟨by omega, by omega⟩, ⟨by omega, by omega⟩, by omega, fun A10 h10 => ⟨hkr.2, fun ch => ⟨by omega, by omega, fun A12 h12 => ?_⟩, fun dr => ⟨by omega, by omega, fun A17 h17 z18 hz18 z1 hz1 => ?_⟩⟩⟩⟩⟩⟩⟩⟩
    all_goals obtain ⟨s0, s37, s38, s39, s40, s41, s42⟩ := go_six ho h5 h6 h7 h8 h9 h10
    · -- a choice
      have k65 : kd = 65 ∨ kd = 66 := by
        rw [hkd] at inner ch ⊢
        rcases ma_node.mp hA with ⟨a, -⟩ | ⟨a, -⟩ | ⟨a, -⟩
        · exact absurd a inner
        · exact absurd a ch
        · exact a
      have hA3 : ma_A (ma_t A n) (k + 3) (300 :: 305 :: 41 :: go_l D o) := by
        rcases ma_node.mp hA with ⟨a, -⟩ | ⟨a, -⟩ | ⟨-, b⟩
        · rw [hkd] at inner
          exact absurd a inner
        · rw [hkd] at ch
          exact absurd a ch
        · exact ((ma_term (by decide)).mp ((ma_term (by decide)).mp b).2).2
      obtain ⟨p, s, p1, p2, p3, p4⟩ := hst k65
      have w0 : ∀ q, q ≠ 16 → (q < 37 ∨ 42 < q) → A12 q = D q := fun q a b => by rw [h12, hb_s_other a]; exact s0 q b
      have w1 : ∀ q, q ≠ 16 → A12 q = A10 q := fun q a => by rw [h12, hb_s_other a]
      have R12 : mz_R d D A12 := go_R (fun q a b => w0 q (by omega) (by omega)) (fun q a => w0 q (by omega) (by omega))
      have g38 : ∀ j, A12 38 j = if j = o then kd else D 38 j := fun j => by rw [w1 38 (by decide)]; exact s38 j
      have g39 : ∀ j, A12 39 j = if j = o then st else D 39 j := fun j => by rw [w1 39 (by decide)]; exact s39 j
      have g40 : ∀ j, A12 40 j = if j = o then -1 else D 40 j := fun j => by rw [w1 40 (by decide)]; exact s40 j
      have S12 : go_S A12 d := by
        unfold go_S at *
        rw [w0 26 (by decide) (by decide), w0 27 (by decide) (by decide), w0 28 (by decide) (by decide), w0 29 (by decide) (by decide), w0 30 (by decide) (by decide), w0 31 (by decide) (by decide)]
        exact hS
      have T12 : go_T A12 d o := fun j hj nd => by
        rw [g38, if_neg (by omega)] at nd
        rw [g39, if_neg (by omega), w0 26 (by decide) (by decide)]
        exact hTT j hj nd
      have ec : go_c A12 p o = go_c D p o := go_c_congr p o (fun j hj => by rw [g38, g39, if_neg (by omega), if_neg (by omega)]; exact ⟨rfl, rfl⟩)
      rw [p2]
      refine wq_recall hd hz ho ho2 hf (by omega) p1 p3 (by rw [w0 26 (by decide) (by decide)]; exact p4) S12 T12 (fun j hj => ?_) (fun z14 h14 z16 hz16 z1 hz1 => ?_) (fun C hfst hC0 hC29 hCo hCi z16 hz16 z1 hz1 => ?_)
      · rw [g38, g40, if_neg (by omega), if_neg (by omega)]
        obtain ⟨-, q2, q3, -⟩ := hN j hj
        refine ⟨by omega, by omega⟩
      · have q1 : z1 35 = z14 35 := by rw [hz1, lp_U_other (by decide), hz16, lp_U_other (by decide)]
        refine hQ z1 A12 ⟨fun q a b c e f g => ?_, ?_, by rw [q1]; exact h14.2.2, mz_R_trans hR R12⟩ (Or.inl (by rw [q1]; exact h14.2.1))
        · rw [hz1, lp_U_other c, hz16, lp_U_other e]
          exact h14.1 q a b
        · rw [hz1, lp_U_same, hz16, lp_U_other (by decide), h14.1 45 (by decide) (by decide)]
          omega
      · rw [ec] at hfst hC29 hCi
        rw [w0 29 (by decide) (by decide)] at hfst hC29
        have v0 : ∀ q, q ≠ 16 → q ≠ 29 → q ≠ 30 → q ≠ 31 → (q < 37 ∨ 42 < q) → C q = D q := fun q a b c e f => by rw [hC0 q b c e]; exact w0 q a f
        have RC : mz_R d D C := go_R (fun q a b => v0 q (by omega) (by omega) (by omega) (by omega) (by omega)) (fun q a => v0 q (by omega) (by omega) (by omega) (by omega) (by omega))
        have q35 : z1 35 = 0 := by rw [hz1, lp_U_other (by decide), hz16, lp_U_other (by decide)]; exact hf
        have q45 : z1 45 = ((o + 1 : Nat) : Int) := by
          rw [hz1, lp_U_same, hz16, lp_U_other (by decide)]
          omega
        have q46 : z1 46 = ((k + 3 : Nat) : Int) := by
          rw [hz1, lp_U_other (by decide), hz16, lp_U_same]
          omega
        have hcr := go_c_range D p o
        have e26 : C 26 = D 26 := v0 26 (by decide) (by decide) (by decide) (by decide) (by decide)
        have hnat : st.toNat = 10 * p + s := by omega
        have SC : go_S C d := by
          intro p' hp'
          obtain ⟨a, b⟩ := hS p' hp'
          rw [e26]
          refine ⟨a, fun s' hs' => ?_⟩
          obtain ⟨b1, b2, b3, b4⟩ := b s' hs'
          rw [v0 27 (by decide) (by decide) (by decide) (by decide) (by decide), v0 28 (by decide) (by decide) (by decide) (by decide) (by decide), hC29]
          by_cases e : p' = p ∧ s' = s
          · rw [e.1, e.2] at b1 b2 ⊢
            rw [if_pos rfl]
            exact ⟨b1, b2, by omega, hCi⟩
          · have hne : 20 * d + (10 * p' + s') ≠ 20 * d + (10 * p + s) := by omega
            rw [if_neg hne]
            refine ⟨b1, b2, b3, fun q hq => ?_⟩
            obtain ⟨x1, x2⟩ := hCo (20 * (20 * d + (10 * p' + s')) + q) (by omega)
            rw [x1, x2, w0 30 (by decide) (by decide), w0 31 (by decide) (by decide)]
            exact b4 q hq
        have G1 : go_G C d (o + 1) (D 13 d) (-1) := by
          refine go_push (B := D) (o := o) (kd := kd) (st := st) (x := x) (fun q _ a b c e f => v0 q a b c e f) (fun j => by rw [hC0 37 (by decide) (by decide) (by decide), w1 37 (by decide)]; exact s37 j) (fun j => by rw [hC0 38 (by decide) (by decide) (by decide)]; exact g38 j) (fun j => by rw [hC0 39 (by decide) (by decide) (by decide)]; exact g39 j) (fun j => by rw [hC0 40 (by decide) (by decide) (by decide)]; exact g40 j) (fun j => by rw [hC0 41 (by decide) (by decide) (by decide), w1 41 (by decide)]; exact s41 j) (fun j => by rw [hC0 42 (by decide) (by decide) (by decide), w1 42 (by decide)]; exact s42 j)
            (by omega) (by omega) (Or.inr k65) ⟨m1, m2, small⟩ SC (fun _ => ⟨p, s, p1, p2, p3, p4⟩) (fun j hj nd => ?_) (fun _ => ?_) (by omega) ⟨hN, hS, hTT, hP, hH, hZ, hE⟩
          · have h1 := hP j hj nd
            rw [hC29]
            split
            · next e =>
              rw [e] at h1
              have h2 := go_c_range D (D 39 j / 10) j
              have h3 := hfst (by omega)
              omega
            · exact h1
          · have e10 : st / 10 = (p : Int) := by omega
            rw [hnat, hC29, if_pos rfl, e10]
        refine hQ z1 C ⟨fun q a b c e f g => ?_, by omega, by rw [q35]; exact ⟨by decide, by decide⟩, mz_R_trans hR RC⟩ (Or.inr ⟨q35, ?_⟩)
        · rw [hz1, lp_U_other c, hz16, lp_U_other e]
        · refine go_opened (kd := kd) (k' := k + 3) ⟨⟨c0, c1, c2⟩, c3, c4⟩ (by rw [v0 13 (by decide) (by decide) (by decide) (by decide) (by decide)]) (by rw [v0 14 (by decide) (by decide) (by decide) (by decide) (by decide)]) (by rw [v0 24 (by decide) (by decide) (by decide) (by decide) (by decide)]) (fun j => by rw [hC0 38 (by decide) (by decide) (by decide)]; exact g38 j) (fun j => by rw [hC0 40 (by decide) (by decide) (by decide)]; exact g40 j) G1 ho2 hmv q45 q46 (by omega) ?_
          rw [if_neg ch, if_neg ch]
          exact hA3
    · -- a draw
      have hA2 : ma_A (ma_t A n) (k + 2) (303 :: 304 :: 41 :: go_l D o) := by
        rcases ma_node.mp hA with ⟨a, -⟩ | ⟨-, b⟩ | ⟨a, -⟩
        · rw [hkd] at inner
          exact absurd a inner
        · exact ((ma_term (by decide)).mp b).2
        · rw [hkd] at dr
          omega
      have v0 : ∀ q, q ≠ 15 → (q < 37 ∨ 42 < q) → A17 q = D q := fun q a b => by rw [h17, hb_s_other a]; exact s0 q b
      have w1 : ∀ q, q ≠ 15 → A17 q = A10 q := fun q a => by rw [h17, hb_s_other a]
      have RC : mz_R d D A17 := go_R (fun q a b => v0 q (by omega) (by omega)) (fun q a => v0 q (by omega) (by omega))
      have SC : go_S A17 d := by
        unfold go_S at *
        rw [v0 26 (by decide) (by decide), v0 27 (by decide) (by decide), v0 28 (by decide) (by decide), v0 29 (by decide) (by decide), v0 30 (by decide) (by decide), v0 31 (by decide) (by decide)]
        exact hS
      have q35 : z1 35 = 0 := by rw [hz1, lp_U_other (by decide), hz18, lp_U_other (by decide)]; exact hf
      have q45 : z1 45 = ((o + 1 : Nat) : Int) := by
        rw [hz1, lp_U_same, hz18, lp_U_other (by decide)]
        omega
      have q46 : z1 46 = ((k + 2 : Nat) : Int) := by
        rw [hz1, lp_U_other (by decide), hz18, lp_U_same]
        omega
      have G1 : go_G A17 d (o + 1) (D 13 d) (-1) := by
        refine go_push (B := D) (o := o) (kd := kd) (st := st) (x := x) (fun q a _ _ _ _ f => v0 q a f) (fun j => by rw [w1 37 (by decide)]; exact s37 j) (fun j => by rw [w1 38 (by decide)]; exact s38 j) (fun j => by rw [w1 39 (by decide)]; exact s39 j) (fun j => by rw [w1 40 (by decide)]; exact s40 j) (fun j => by rw [w1 41 (by decide)]; exact s41 j) (fun j => by rw [w1 42 (by decide)]; exact s42 j)
          (by omega) (by omega) (Or.inl dr) ⟨m1, m2, small⟩ SC (fun c => absurd dr c) (fun j hj nd => by rw [v0 29 (by decide) (by decide)]; exact hP j hj nd) (fun c => absurd dr c) (by omega) ⟨hN, hS, hTT, hP, hH, hZ, hE⟩
      refine hQ z1 A17 ⟨fun q a b c e f g => ?_, by omega, by rw [q35]; exact ⟨by decide, by decide⟩, mz_R_trans hR RC⟩ (Or.inr ⟨q35, ?_⟩)
      · rw [hz1, lp_U_other c, hz18, lp_U_other e]
      · refine go_opened (kd := kd) (k' := k + 2) ⟨⟨c0, c1, c2⟩, c3, c4⟩ (by rw [v0 13 (by decide) (by decide)]) (by rw [v0 14 (by decide) (by decide)]) (by rw [v0 24 (by decide) (by decide)]) (fun j => by rw [w1 38 (by decide)]; exact s38 j) (fun j => by rw [w1 40 (by decide)]; exact s40 j) G1 ho2 hmv q45 q46 (by omega) ?_
        rw [if_pos dr, if_pos dr]
        exact hA2
  · -- an end
    have hx1 : x = -1 := by omega
    have hA1 : ma_A (ma_t D n) (k + 1) (301 :: 93 :: go_l D o) := by
      rw [ht']
      rcases ma_node.mp hA with ⟨-, b⟩ | ⟨a, -⟩ | ⟨a, -⟩
      · exact b
      · omega
      · omega
    have g46 : z19 46 = ((k + 1 : Nat) : Int) := by
      rw [hz19, lp_U_same]
      omega
    have gq : ∀ q, q ≠ 46 → z19 q = z q := fun q a => by rw [hz19, lp_U_other a]
    refine wq_fraction hT' (Or.inl rfl) g46 (by rw [gq 35 (by decide)]; exact hf) hA1 (fun z' k' hq h46 hkk hacc h47 h48 _ => ?_) (fun z' hq h35 h35' => ⟨h35', fun _ => ?_, fun c => absurd c h35⟩)
    · have g35 : z' 35 = 0 := by rw [hq 35 (by decide) (by decide) (by decide), gq 35 (by decide)]; exact hf
      have g45 : z' 45 = (o : Int) := by rw [hq 45 (by decide) (by decide) (by decide), gq 45 (by decide)]; exact ho
      have g33 : z' 33 = (d : Int) := by rw [hq 33 (by decide) (by decide) (by decide), gq 33 (by decide)]; exact hz
      refine ⟨by rw [g35]; exact ⟨by decide, by decide⟩, fun c => absurd g35 c, fun _ => ⟨by omega, ⟨by omega, by omega⟩, ⟨by omega, by omega⟩, by omega, ⟨by omega, by omega⟩, ⟨by omega, by omega⟩, ?_⟩⟩
      obtain ⟨e0, he0⟩ : ∃ e0 : Nat, D 14 d = (e0 : Int) := ⟨(D 14 d).toNat, by omega⟩
      obtain ⟨f, hf0⟩ : ∃ f : Nat, D 24 d = (f : Int) := ⟨(D 24 d).toNat, by omega⟩
      have hgo := go_a_le D o
      refine wq_end (e0 := e0) (f := f) hd g33 g45 ho2 he0 (by omega) hf0 (by omega) (fun j hj => by obtain ⟨-, q2, -⟩ := hN j hj; omega) (by omega) (by omega) h47 h48 (fun C t b hC0 h14 h24 ht hb h17 h18 h20 h21 hout hin z25 hz25 => ?_)
      have G1 := go_end ho2 he0 hf0 hC0 h14 h24 ht hb h17 h18 h20 h21 hout hin hmv (by rw [← hx1]; exact ⟨hN, hS, hTT, hP, hH, hZ, hE⟩ : go_G D d o (D 13 d) (-1))
      have e13 : C 13 = D 13 := hC0 13 (by decide) (by decide) (by decide) (by decide) (by decide) (by decide) (by decide) (by decide)
      have e38 : C 38 = D 38 := hC0 38 (by decide) (by decide) (by decide) (by decide) (by decide) (by decide) (by decide) (by decide)
      have e40 : C 40 = D 40 := hC0 40 (by decide) (by decide) (by decide) (by decide) (by decide) (by decide) (by decide) (by decide)
      have el : go_l C o = go_l D o := go_l_congr o (fun j _ => by rw [e38])
      have q35 : z25 35 = 0 := by rw [hz25, lp_U_other (by decide)]; exact g35
      have q45 : z25 45 = (o : Int) := by rw [hz25, lp_U_other (by decide)]; exact g45
      have q46 : z25 46 = ((k' + 1 : Nat) : Int) := by
        rw [hz25, lp_U_same]
        omega
      have RC : mz_R d D C := by
        refine ⟨fun q a b => hC0 q (by omega) (by omega) (by omega) (by omega) (by omega) (by omega) (by omega) (by omega), fun i hi => ?_, fun i _ _ => by rw [hC0 26 (by decide) (by decide) (by decide) (by decide) (by decide) (by decide) (by decide) (by decide)], fun i _ => by rw [hC0 28 (by decide) (by decide) (by decide) (by decide) (by decide) (by decide) (by decide) (by decide)], fun i hi => ?_, fun i hi => hout i (by omega)⟩
        · rw [h14, if_neg hi, hC0 25 (by decide) (by decide) (by decide) (by decide) (by decide) (by decide) (by decide) (by decide)]
          exact ⟨rfl, rfl⟩
        · rw [hC0 19 (by decide) (by decide) (by decide) (by decide) (by decide) (by decide) (by decide) (by decide), h20, h21, if_neg (by omega), if_neg (by omega)]
          exact ⟨rfl, rfl, rfl⟩
      have acc := ((ma_term (by decide)).mp hacc).2
      rw [ht', ← el] at acc
      refine hQ z25 C ⟨fun q a b c e f' g => ?_, by omega, by rw [q35]; exact ⟨by decide, by decide⟩, mz_R_trans hR RC⟩ (Or.inr ⟨q35, o, k' + 1, q45, q46, by omega, by omega, ?_, by rw [e13]; exact G1, fun j hj => by rw [e40]; exact hmv j (by omega), ?_⟩)
      · rw [hz25, lp_U_other e, hq q e f' g]
        exact gq q e
      · refine ⟨?_, ?_⟩
        · rw [h14, if_pos rfl, e13]
          omega
        · rw [h24, h14, if_pos rfl]
          omega
      · cases o with
        | zero => exact Or.inl ⟨rfl, acc⟩
        | succ j => exact Or.inr ⟨j, rfl, Or.inl ⟨by rw [e40]; exact hmv j (by omega), acc⟩⟩
    · refine hQ z' D ⟨fun q a b c e f g => ?_, ?_, h35', hR⟩ (Or.inl h35)
      · rw [hq q a b e f g]
        exact gq q e
      · rw [hq 45 (by decide) (by decide) (by decide) (by decide) (by decide), gq 45 (by decide)]
        omega

-- 58.node
theorem wq_beginNode_92 {z : Nat → Int} {A B : Nat → Nat → Int} {d n o k p : Nat} {y1 y3 kd : Int} {Q : (Nat → Int) → (Nat → Nat → Int) → Prop} (hd : d < 2) (hT : mc_T A n) (hR : mz_R d A B) (hz : z 33 = (d : Int)) (ho : z 45 = (o : Int)) (ho2 : o ≤ 20) (hk : z 46 = (k : Int)) (hf : z 35 = 0) (hC : go_C B d) (hlt : B 14 d < B 13 d) (hG : go_G B d o (B 13 d) (-1)) (hmv : ∀ j, j < o → 0 ≤ B 40 j) (hA : ma_A (ma_t A n) k (300 :: go_l B o)) (hy : 1 ≤ y1 ∧ y1 ≤ y3 ∧ y3 ≤ 10000000000000) (hkd : kd = ma_t A n k) (h65 : kd = 65 ∨ kd = 66) (hp : p < 2)
    (hQ : ∀ z' C, go_W d A z z' C → (z' 35 ≠ 0 ∨ (z' 35 = 0 ∧ go_I (ma_t A n) d z' C k)) → Q z' C) : wp_beginNode_92 z B y1 y3 (k : Int) kd (p : Int) Q := by
  obtain ⟨hT', ht'⟩ := go_tok hR hT
  have hn := hT.2.1
  have hf' : hz_rI (z 35) := by rw [hf]; exact ⟨by decide, by decide⟩
  have hA1 : ma_A (ma_t A n) (k + 1) (1 :: 40 :: 300 :: 305 :: 41 :: go_l B o) := by
    rcases ma_node.mp hA with ⟨a, -⟩ | ⟨a, -⟩ | ⟨-, b⟩
    · omega
    · omega
    · exact b
  have t1 := ((ma_term (by decide)).mp hA1).1
  obtain ⟨l1, -⟩ := mo_tok hT (by rw [t1]; decide) (by rw [t1]; decide)
  have told := (hT'.2.2.1 (k + 1) (by omega)).2.1
  have ek : (z 46 + 1).toNat = k + 1 := by omega
  refine ⟨⟨by omega, by omega⟩, ?_⟩
  rw [ek]
  have hS := hG.2.1
  have h10 := (hS p hp).1
  have stop : wp_stop z B 2 (k : Int) (fun z' => Q z' B) := wq_stop (by decide) (by omega) hf' (fun z' h => hQ z' B ⟨fun q a b _ _ _ _ => h.1 q a b, by rw [h.1 45 (by decide) (by decide)]; omega, h.2.2, hR⟩ (Or.inl h.2.1))
  refine wq_findSet hd hz hp told hS (fun s hs => ⟨⟨by omega, by omega⟩, fun _ => ?_, fun c => by omega⟩) ⟨⟨by decide, by decide⟩, fun c => by omega, fun _ => stop⟩ (fun s C hs hs10 hC0 h26 h27 h28 h29 => ⟨⟨by omega, by omega⟩, fun _ => ?_, fun c => by omega⟩)
  · exact wq_beginNode_121 hd hT hR hz ho ho2 hk hf hC hlt hG hmv hA hy hkd (fun _ => ⟨p, s, hp, rfl, by omega, hs⟩) (Or.inl rfl) hQ
  · have e : ∀ q, (q < 26 ∨ 29 < q) → C q = B q := fun q h => hC0 q (by omega) (by omega) (by omega) (by omega)
    have RC : mz_R d B C := by
      refine ⟨fun q a b => e q (by omega), fun i _ => ?_, fun i a b => ?_, fun i a => ?_, fun i _ => ?_, fun i _ => ?_⟩
      · rw [e 14 (by decide), e 25 (by decide)]
        exact ⟨rfl, rfl⟩
      · rw [h26, if_neg (by omega)]
      · rw [h28, if_neg (by omega)]
      · rw [e 19 (by decide), e 20 (by decide), e 21 (by decide)]
        exact ⟨rfl, rfl, rfl⟩
      · rw [e 22 (by decide), e 23 (by decide)]
        exact ⟨rfl, rfl⟩
    have G1 := go_new hp hs hs10 told hC0 h26 h27 h28 h29 hG
    have el : go_l C o = go_l B o := go_l_congr o (fun j _ => by rw [e 38 (by decide)])
    refine wq_beginNode_121 (x := ((10 * p + s : Nat) : Int)) hd hT (mz_R_trans hR RC) hz ho ho2 hk hf ?_ ?_ ?_ (fun j hj => by rw [e 40 (by decide)]; exact hmv j hj) (by rw [el]; exact hA) hy hkd (fun _ => ⟨p, s, hp, rfl, hs10, by rw [h26, if_pos rfl]; omega⟩) (Or.inr ⟨rfl, h65⟩) hQ
    · unfold go_C at *
      rw [e 13 (by decide), e 14 (by decide), e 24 (by decide)]
      exact hC
    · rw [e 13 (by decide), e 14 (by decide)]
      exact hlt
    · rw [e 13 (by decide)]
      exact G1
theorem wq_beginNode {z : Nat → Int} {A B : Nat → Nat → Int} {d n o k : Nat} {y1 y3 : Int} {Q : (Nat → Int) → (Nat → Nat → Int) → Prop} (hd : d < 2) (hT : mc_T A n) (hR : mz_R d A B) (hz : z 33 = (d : Int)) (ho : z 45 = (o : Int)) (ho2 : o ≤ 21) (hk : z 46 = (k : Int)) (hf : z 35 = 0) (hC : go_C B d) (hG : go_G B d o (B 13 d + 1) (-1)) (hmv : ∀ j, j < o → 0 ≤ B 40 j) (hA : ma_A (ma_t A n) k (300 :: go_l B o)) (hy : 1 ≤ y1 ∧ y1 ≤ y3 ∧ y3 ≤ 10000000000000)
    (hQ : ∀ z' C, go_W d A z z' C → (z' 35 ≠ 0 ∨ (z' 35 = 0 ∧ go_I (ma_t A n) d z' C k)) → Q z' C) : wp_beginNode z B y1 y3 Q := by
  have hn := hT.2.1
  have hf' : hz_rI (z 35) := by rw [hf]; exact ⟨by decide, by decide⟩
  have ed : (z 33).toNat = d := by omega
  have ek : (z 46).toNat = k := by omega
  obtain ⟨⟨c0, c1, c2⟩, c3, c4⟩ := hC
  have htk : ma_t A n k ≠ 0 ∧ ma_t A n k ≠ 2 ∧ hz_rI (ma_t A n k) := by
    rcases ma_node.mp hA with ⟨a, -⟩ | ⟨a, -⟩ | ⟨a | a, -⟩ <;> rw [a] <;> exact ⟨by decide, by decide, ⟨by decide, by decide⟩⟩
  obtain ⟨l1, t1⟩ := mo_tok hT htk.1 htk.2.1
  intro x5 hx5
  refine ⟨by omega, fun x6 hx6 => ⟨by omega, by omega, fun D hD => ?_⟩⟩
  have ex5 : x5 = (k : Int) := by omega
  have ex6 : x6 = ma_t A n k := by rw [hx6, ek, t1, hR.1 7 (by decide) (by decide)]
  rw [ed] at hD
  have e : ∀ q, q ≠ 13 → D q = B q := fun q h => by rw [hD, hb_s_other h]
  have e13 : D 13 d = B 13 d + 1 := by
    rw [hD, lq_s_fun]
    unfold hz_u
    rw [ed, if_pos rfl]
  have RD : mz_R d B D := go_R (fun q a b => e q (by omega)) (fun q a => e q (by omega))
  have R1 := mz_R_trans hR RD
  have G1 : go_G D d o (D 13 d) (-1) := by
    rw [e13]
    exact go_keep (fun q a _ _ => e q a) hG
  have el : go_l D o = go_l B o := go_l_congr o (fun j _ => by rw [e 38 (by decide)])
  have hA' : ma_A (ma_t A n) k (300 :: go_l D o) := by rw [el]; exact hA
  have hmv' : ∀ j, j < o → 0 ≤ D 40 j := fun j hj => by rw [e 40 (by decide)]; exact hmv j hj
  have r6 : hz_rI x6 := by rw [ex6]; exact htk.2.2
  rw [ed, ex5, e13]
  have stop : wp_beginNode_54 z D (k : Int) Q := wq_stop (by decide) (by omega) hf' (fun z' h => hQ z' D ⟨fun q a b _ _ _ _ => h.1 q a b, by rw [h.1 45 (by decide) (by decide)]; omega, h.2.2, R1⟩ (Or.inl h.2.1))
  refine ⟨by omega, ⟨by omega, by omega⟩, fun _ => stop, fun c4' => ⟨⟨by omega, by omega⟩, fun c20 => ?_, fun _ => stop⟩⟩
  have hCD : go_C D d := by
    unfold go_C
    rw [e13, e 14 (by decide), e 24 (by decide)]
    exact ⟨by omega, c3, c4⟩
  have hlt : D 14 d < D 13 d := by
    rw [e13, e 14 (by decide)]
    omega
  have ch : x6 = 65 ∨ x6 = 66 → wp_beginNode_79 z D y1 y3 (k : Int) x6 Q := by
    intro h65
    refine ⟨r6, fun _ => ?_, fun _ => ?_⟩
    · exact wq_beginNode_92 (p := 1) hd hT R1 hz ho (by omega) hk hf hCD hlt G1 hmv' hA' hy ex6 h65 (by decide) hQ
    · exact wq_beginNode_92 (p := 0) hd hT R1 hz ho (by omega) hk hf hCD hlt G1 hmv' hA' hy ex6 h65 (by decide) hQ
  exact ⟨r6, fun h => ch (Or.inl h), fun h5 => ⟨r6, fun h6 => wq_beginNode_121 hd hT R1 hz ho (by omega) hk hf hCD hlt G1 hmv' hA' hy ex6 (fun h => by omega) (Or.inl rfl) hQ, fun h => ch (Or.inr h)⟩⟩
