-- 52.bad
/-- the words, none behind the last; what is wanted next is met: the grammar as a stack -/
noncomputable def ma_t (A : Nat → Nat → Int) (n : Nat) : Nat → Int := fun k => if k < n then A 7 k else 2
noncomputable def ma_F (t : Nat → Int) : Nat → Nat → List Int → Prop
  | 0, _, _ => False
  | _ + 1, _, [] => True
  | f + 1, k, w :: st =>
    if w = 300 then (t k = 91 ∧ ma_F t f (k + 1) (301 :: 93 :: st)) ∨ (t k = 63 ∧ ma_F t f (k + 1) (40 :: 303 :: 304 :: 41 :: st)) ∨ ((t k = 65 ∨ t k = 66) ∧ ma_F t f (k + 1) (1 :: 40 :: 300 :: 305 :: 41 :: st))
    else if w = 301 then ma_F t f (if t k = 45 then k + 1 else k) (1 :: 302 :: st)
    else if w = 302 then (if t k = 47 then ma_F t f (k + 1) (1 :: st) else ma_F t f k st)
    else if w = 303 then ma_F t f k (301 :: 58 :: 300 :: st)
    else if w = 304 then (if t k = 44 then ma_F t f (k + 1) (303 :: 304 :: st) else ma_F t f k st)
    else if w = 305 then (if t k = 44 then ma_F t f (k + 1) (300 :: 305 :: st) else ma_F t f k st)
    else t k = w ∧ ma_F t f (k + 1) st
noncomputable def ma_A (t : Nat → Int) (k : Nat) (st : List Int) : Prop := ∃ f, ma_F t f k st
theorem ma_nil (t : Nat → Int) (k : Nat) : ma_A t k [] := ⟨1, by simp [ma_F]⟩
theorem ma_term {t : Nat → Int} {k : Nat} {w : Int} {st : List Int} (hw : w < 300) : ma_A t k (w :: st) ↔ t k = w ∧ ma_A t (k + 1) st := by
  constructor
  · intro ⟨f, h⟩
    cases f with
    | zero => exact h.elim
    | succ f =>
      rw [ma_F, if_neg (by omega), if_neg (by omega), if_neg (by omega), if_neg (by omega), if_neg (by omega), if_neg (by omega)] at h
      exact ⟨h.1, f, h.2⟩
  · intro ⟨h1, f, h2⟩
    refine ⟨f + 1, ?_⟩
    rw [ma_F, if_neg (by omega), if_neg (by omega), if_neg (by omega), if_neg (by omega), if_neg (by omega), if_neg (by omega)]
    exact ⟨h1, h2⟩
theorem ma_node {t : Nat → Int} {k : Nat} {st : List Int} : ma_A t k (300 :: st) ↔ (t k = 91 ∧ ma_A t (k + 1) (301 :: 93 :: st)) ∨ (t k = 63 ∧ ma_A t (k + 1) (40 :: 303 :: 304 :: 41 :: st)) ∨ ((t k = 65 ∨ t k = 66) ∧ ma_A t (k + 1) (1 :: 40 :: 300 :: 305 :: 41 :: st)) := by
  constructor
  · intro ⟨f, h⟩
    cases f with
    | zero => exact h.elim
    | succ f =>
      rw [ma_F, if_pos rfl] at h
      rcases h with ⟨a, b⟩ | ⟨a, b⟩ | ⟨a, b⟩
      · exact Or.inl ⟨a, f, b⟩
      · exact Or.inr (Or.inl ⟨a, f, b⟩)
      · exact Or.inr (Or.inr ⟨a, f, b⟩)
  · intro h
    rcases h with ⟨a, f, b⟩ | ⟨a, f, b⟩ | ⟨a, f, b⟩ <;> refine ⟨f + 1, ?_⟩ <;> rw [ma_F, if_pos rfl]
    · exact Or.inl ⟨a, b⟩
    · exact Or.inr (Or.inl ⟨a, b⟩)
    · exact Or.inr (Or.inr ⟨a, b⟩)
theorem ma_frac {t : Nat → Int} {k : Nat} {st : List Int} : ma_A t k (301 :: st) ↔ ma_A t (if t k = 45 then k + 1 else k) (1 :: 302 :: st) := by
  constructor
  · intro ⟨f, h⟩
    cases f with
    | zero => exact h.elim
    | succ f =>
      rw [ma_F, if_neg (by decide), if_pos rfl] at h
      exact ⟨f, h⟩
  · intro ⟨f, h⟩
    refine ⟨f + 1, ?_⟩
    rw [ma_F, if_neg (by decide), if_pos rfl]
    exact h
theorem ma_line {t : Nat → Int} {k : Nat} {st : List Int} : ma_A t k (302 :: st) ↔ (if t k = 47 then ma_A t (k + 1) (1 :: st) else ma_A t k st) := by
  constructor
  · intro ⟨f, h⟩
    cases f with
    | zero => exact h.elim
    | succ f =>
      rw [ma_F, if_neg (by decide), if_neg (by decide), if_pos rfl] at h
      split at h
      · next c => rw [if_pos c]; exact ⟨f, h⟩
      · next c => rw [if_neg c]; exact ⟨f, h⟩
  · intro h
    split at h
    · next c =>
      obtain ⟨f, h⟩ := h
      refine ⟨f + 1, ?_⟩
      rw [ma_F, if_neg (by decide), if_neg (by decide), if_pos rfl, if_pos c]
      exact h
    · next c =>
      obtain ⟨f, h⟩ := h
      refine ⟨f + 1, ?_⟩
      rw [ma_F, if_neg (by decide), if_neg (by decide), if_pos rfl, if_neg c]
      exact h
theorem ma_way {t : Nat → Int} {k : Nat} {st : List Int} : ma_A t k (303 :: st) ↔ ma_A t k (301 :: 58 :: 300 :: st) := by
  constructor
  · intro ⟨f, h⟩
    cases f with
    | zero => exact h.elim
    | succ f =>
      rw [ma_F, if_neg (by decide), if_neg (by decide), if_neg (by decide), if_pos rfl] at h
      exact ⟨f, h⟩
  · intro ⟨f, h⟩
    refine ⟨f + 1, ?_⟩
    rw [ma_F, if_neg (by decide), if_neg (by decide), if_neg (by decide), if_pos rfl]
    exact h
/-- more ways, more moves: 304 and 303, 305 and 300 -/
theorem ma_more {t : Nat → Int} {k : Nat} {st : List Int} {w v : Int} (hw : (w = 304 ∧ v = 303) ∨ (w = 305 ∧ v = 300)) : ma_A t k (w :: st) ↔ (if t k = 44 then ma_A t (k + 1) (v :: w :: st) else ma_A t k st) := by
  have e : ∀ f, ma_F t (f + 1) k (w :: st) = (if t k = 44 then ma_F t f (k + 1) (v :: w :: st) else ma_F t f k st) := fun f => by
    rcases hw with ⟨a, b⟩ | ⟨a, b⟩ <;> subst a <;> subst b
    · rw [ma_F, if_neg (by decide), if_neg (by decide), if_neg (by decide), if_neg (by decide), if_pos rfl]
    · rw [ma_F, if_neg (by decide), if_neg (by decide), if_neg (by decide), if_neg (by decide), if_neg (by decide), if_pos rfl]
  constructor
  · intro ⟨f, h⟩
    cases f with
    | zero => exact h.elim
    | succ f =>
      rw [e] at h
      split at h
      · next c => rw [if_pos c]; exact ⟨f, h⟩
      · next c => rw [if_neg c]; exact ⟨f, h⟩
  · intro h
    split at h
    · next c =>
      obtain ⟨f, h⟩ := h
      exact ⟨f + 1, by rw [e, if_pos c]; exact h⟩
    · next c =>
      obtain ⟨f, h⟩ := h
      exact ⟨f + 1, by rw [e, if_neg c]; exact h⟩
/-- the stack in its array -/
noncomputable def mb_L (A : Nat → Nat → Int) : List Int → Prop
  | [] => True
  | w :: st => A 11 st.length = w ∧ mb_L A st
noncomputable def mb_ok : List Int → Prop
  | [] => False
  | [w] => w = 0
  | w :: v :: st => (w = 93 ∨ w = 41 ∨ w = 40 ∨ w = 58 ∨ w = 1 ∨ (300 ≤ w ∧ w ≤ 305)) ∧ mb_ok (v :: st)
noncomputable def mb_e (w : Int) : Int := if w = 301 then 2 else if w = 303 then 4 else 1
noncomputable def mb_E : List Int → Int
  | [] => 0
  | w :: st => mb_e w + mb_E st
noncomputable def mb_m (w : Int) : Nat := if w = 301 then 4 else if w = 303 then 7 else if w = 302 then 2 else 1
noncomputable def mb_M : List Int → Nat
  | [] => 0
  | w :: st => mb_m w + mb_M st
theorem mb_E_len (st : List Int) : (st.length : Int) ≤ mb_E st := by
  induction st with
  | nil => exact Int.le_refl _
  | cons w st ih =>
    simp only [mb_E, List.length_cons]
    have : 1 ≤ mb_e w := by unfold mb_e; split <;> (try split) <;> omega
    omega
theorem mb_L_keep {A B : Nat → Nat → Int} {st : List Int} (h : ∀ i, i < st.length → B 11 i = A 11 i) (hL : mb_L A st) : mb_L B st := by
  induction st with
  | nil => trivial
  | cons w st ih =>
    refine ⟨by rw [h st.length (by simp)]; exact hL.1, ih (fun i hi => h i (by simp; omega)) hL.2⟩
theorem mb_ok_tail {w : Int} {st : List Int} (h : mb_ok (w :: st)) (hs : st ≠ []) : mb_ok st := by
  cases st with
  | nil => exact absurd rfl hs
  | cons v st => exact h.2
theorem mb_ok_cons {w : Int} {st : List Int} (hw : w = 93 ∨ w = 41 ∨ w = 40 ∨ w = 58 ∨ w = 1 ∨ (300 ≤ w ∧ w ≤ 305)) (h : mb_ok st) : mb_ok (w :: st) := by
  cases st with
  | nil => exact h.elim
  | cons v st => exact ⟨hw, h⟩
theorem wq_want {z : Nat → Int} {A : Nat → Nat → Int} {w : Int} {st : List Int} {Q : (Nat → Int) → (Nat → Nat → Int) → Prop} (hlen : st.length < 16100) (hL : mb_L A st) (hQ : ∀ B, lq_K 11 A B → mb_L B (w :: st) → Q (lp_U z 12 ((w :: st).length : Int)) B) : wp_want (lp_U z 12 (st.length : Int)) A w Q := by
  rw [wp_want, lp_U_same]
  refine ⟨⟨by omega, by omega⟩, fun B hB z2 hz2 => ?_⟩
  rw [lp_U_U] at hz2
  have e : (st.length : Int) + 1 = ((w :: st).length : Int) := by simp
  rw [hz2, e]
  have e2 : ((st.length : Int)).toNat = st.length := by omega
  refine hQ B (by rw [hB]; exact lq_K_s _ _ _ _) ⟨?_, mb_L_keep (fun i hi => ?_) hL⟩
  · rw [hB, lq_s_fun]
    unfold hz_u
    rw [e2, if_pos rfl]
  · rw [hB, lq_s_fun]
    unfold hz_u
    rw [e2, if_neg (by omega)]
-- 53.steps
/-- a fault was told -/
noncomputable def mo_stop (z z' : Nat → Int) : Prop := (∀ q, q ≠ 35 → q ≠ 36 → z' q = z q) ∧ z' 35 ≠ 0 ∧ hz_rI (z' 35)
theorem mo_div {a b r : Int} (hr : 1 ≤ r) (h1 : r ∣ a) (h2 : r ∣ b) (ha : 0 < a) (hab : a ≤ b) : (1 ≤ a.tdiv r ∧ a.tdiv r ≤ b.tdiv r) ∧ b.tdiv r ≤ b := by
  obtain ⟨x, hx⟩ := h1
  obtain ⟨y, hy⟩ := h2
  have ex : a.tdiv r = x := by rw [hx, Int.mul_tdiv_cancel_left _ (by omega)]
  have ey : b.tdiv r = y := by rw [hy, Int.mul_tdiv_cancel_left _ (by omega)]
  rw [ex, ey]
  have x1 : 1 ≤ x := by
    apply Classical.byContradiction
    intro hc
    have : 0 ≤ r * (-x) := Int.mul_nonneg (by omega) (by omega)
    rw [Int.mul_neg] at this
    omega
  have xy : x ≤ y := by
    apply Classical.byContradiction
    intro hc
    have : r * (y + 1) ≤ r * x := Int.mul_le_mul_of_nonneg_left (by omega) (by omega)
    rw [Int.mul_add] at this
    omega
  have yb : 1 * y ≤ r * y := Int.mul_le_mul_of_nonneg_right hr (by omega)
  exact ⟨⟨x1, xy⟩, by omega⟩
theorem mo_divn {a r : Int} (hr : 1 ≤ r) (h1 : r ∣ a) : ((a.tdiv r).natAbs : Int) ≤ a.natAbs ∧ (1 ≤ a → 1 ≤ a.tdiv r) := by
  obtain ⟨x, hx⟩ := h1
  have ex : a.tdiv r = x := by rw [hx, Int.mul_tdiv_cancel_left _ (by omega)]
  rw [ex, hx, Int.natAbs_mul, Int.natCast_mul]
  have e : ((r.natAbs : Nat) : Int) = r := by omega
  rw [e]
  refine ⟨?_, fun h => ?_⟩
  · have : 1 * (x.natAbs : Int) ≤ r * (x.natAbs : Int) := Int.mul_le_mul_of_nonneg_right hr (by omega)
    omega
  · apply Classical.byContradiction
    intro hc
    have : 0 ≤ r * (-x) := Int.mul_nonneg (by omega) (by omega)
    rw [Int.mul_neg] at this
    omega
theorem mo_tok {A : Nat → Nat → Int} {n k : Nat} (hT : mc_T A n) (h0 : ma_t A n k ≠ 0) (h2 : ma_t A n k ≠ 2) : k + 1 < n ∧ ma_t A n k = A 7 k := by
  have hk : k < n := by
    apply Classical.byContradiction
    intro hc
    exact h2 (if_neg hc)
  have e : ma_t A n k = A 7 k := if_pos hk
  refine ⟨?_, e⟩
  apply Classical.byContradiction
  intro hc
  have hn : n - 1 = k := by omega
  have := hT.2.2.2.2
  rw [hn, ← e] at this
  rcases this with h | h
  · exact h0 h
  · exact h2 h
-- 54.open
/-- how many choices are open below j: of a player, of both -/
noncomputable def go_c (B : Nat → Nat → Int) (p : Int) : Nat → Int
  | 0 => 0
  | j + 1 => go_c B p j + (if B 38 j ≠ 63 ∧ B 39 j / 10 = p then 1 else 0)
noncomputable def go_a (B : Nat → Nat → Int) : Nat → Nat
  | 0 => 0
  | j + 1 => go_a B j + (if B 38 j ≠ 63 then 1 else 0)
theorem go_c_mono (B : Nat → Nat → Int) (p : Int) (i j : Nat) (h : i ≤ j) : go_c B p i ≤ go_c B p j := by
  induction j with
  | zero =>
    have : i = 0 := by omega
    subst this
    exact Int.le_refl _
  | succ j ih =>
    by_cases e : i = j + 1
    · subst e
      exact Int.le_refl _
    · have := ih (by omega)
      simp only [go_c]
      split <;> omega
theorem go_c_range (B : Nat → Nat → Int) (p : Int) (j : Nat) : 0 ≤ go_c B p j ∧ go_c B p j ≤ j := by
  induction j with
  | zero => exact ⟨Int.le_refl _, Int.le_refl _⟩
  | succ j ih => simp only [go_c]; split <;> omega
theorem go_c_congr {B C : Nat → Nat → Int} (p : Int) (j : Nat) (h : ∀ i, i < j → C 38 i = B 38 i ∧ C 39 i = B 39 i) : go_c C p j = go_c B p j := by
  induction j with
  | zero => rfl
  | succ j ih => simp only [go_c]; rw [ih (fun i hi => h i (by omega)), (h j (by omega)).1, (h j (by omega)).2]
theorem go_a_le (B : Nat → Nat → Int) (j : Nat) : go_a B j ≤ j := by
  induction j with
  | zero => exact Nat.le_refl _
  | succ j ih => simp only [go_a]; split <;> omega
theorem go_a_mono (B : Nat → Nat → Int) (i j : Nat) (h : i ≤ j) : go_a B i ≤ go_a B j := by
  induction j with
  | zero =>
    have : i = 0 := by omega
    subst this
    exact Nat.le_refl _
  | succ j ih =>
    by_cases e : i = j + 1
    · subst e
      exact Nat.le_refl _
    · have := ih (by omega)
      simp only [go_a]
      omega
/-- the sets of open choices are known ones, and how often the player chose ahead of them is told -/
noncomputable def go_T (B : Nat → Nat → Int) (d o : Nat) : Prop := ∀ j, j < o → B 38 j ≠ 63 → ∃ p s : Nat, p < 2 ∧ B 39 j = ((10 * p + s : Nat) : Int) ∧ s < 10 ∧ (s : Int) < B 26 (2 * d + p)
noncomputable def go_P (B : Nat → Nat → Int) (d o : Nat) : Prop := ∀ j, j < o → B 38 j ≠ 63 → B 29 (20 * d + (B 39 j).toNat) = go_c B (B 39 j / 10) j
theorem go_dist {B : Nat → Nat → Int} {d o : Nat} (hP : go_P B d o) {i j : Nat} (hij : i < j) (hj : j < o) (hi : B 38 i ≠ 63) (hj' : B 38 j ≠ 63) : B 39 i ≠ B 39 j := by
  intro e
  have h1 := hP i (by omega) hi
  have h2 := hP j hj hj'
  rw [e] at h1
  have h3 : go_c B (B 39 j / 10) i + 1 ≤ go_c B (B 39 j / 10) (i + 1) := by
    simp only [go_c]
    rw [if_pos ⟨hi, by rw [e]⟩]
    omega
  have h4 := go_c_mono B (B 39 j / 10) (i + 1) j (by omega)
  omega
/-- the sets that are known -/
noncomputable def go_S (B : Nat → Nat → Int) (d : Nat) : Prop := ∀ p, p < 2 → (0 ≤ B 26 (2 * d + p) ∧ B 26 (2 * d + p) ≤ 10) ∧ ∀ s : Nat, (s : Int) < B 26 (2 * d + p) → (0 ≤ B 27 (20 * d + (10 * p + s)) ∧ B 27 (20 * d + (10 * p + s)) ≤ 9999) ∧ (0 ≤ B 28 (20 * d + (10 * p + s)) ∧ B 28 (20 * d + (10 * p + s)) ≤ 4) ∧ (-1 ≤ B 29 (20 * d + (10 * p + s)) ∧ B 29 (20 * d + (10 * p + s)) ≤ 20) ∧
  ∀ q : Nat, (q : Int) < B 29 (20 * d + (10 * p + s)) → (-1 ≤ B 30 (20 * (20 * d + (10 * p + s)) + q) ∧ B 30 (20 * (20 * d + (10 * p + s)) + q) ≤ 20) ∧ (-1 ≤ B 31 (20 * (20 * d + (10 * p + s)) + q) ∧ B 31 (20 * (20 * d + (10 * p + s)) + q) ≤ 401)
-- 55.end
/-- nothing but the draft's part of the arrays is changed -/
noncomputable def mz_R (d : Nat) (A B : Nat → Nat → Int) : Prop :=
  (∀ k, (k < 13 ∨ 31 < k) → (k < 37 ∨ 44 < k) → B k = A k) ∧ (∀ i, i ≠ d → B 14 i = A 14 i ∧ B 25 i = A 25 i) ∧ (∀ i, i ≠ 2 * d → i ≠ 2 * d + 1 → B 26 i = A 26 i) ∧ (∀ i, (i < 20 * d ∨ 20 * d + 20 ≤ i) → B 28 i = A 28 i) ∧ (∀ i, (i < 400 * d ∨ 400 * d + 400 ≤ i) → B 19 i = A 19 i ∧ B 20 i = A 20 i ∧ B 21 i = A 21 i) ∧ (∀ i, (i < 8000 * d ∨ 8000 * d + 8000 ≤ i) → B 22 i = A 22 i ∧ B 23 i = A 23 i)
theorem mz_R_refl (d : Nat) (A : Nat → Nat → Int) : mz_R d A A := ⟨fun _ _ _ => rfl, fun _ _ => ⟨rfl, rfl⟩, fun _ _ _ => rfl, fun _ _ => rfl, fun _ _ => ⟨rfl, rfl, rfl⟩, fun _ _ => ⟨rfl, rfl⟩⟩
theorem mz_R_trans {d : Nat} {A B C : Nat → Nat → Int} (h1 : mz_R d A B) (h2 : mz_R d B C) : mz_R d A C :=
  ⟨fun k a b => (h2.1 k a b).trans (h1.1 k a b), fun i a => ⟨(h2.2.1 i a).1.trans (h1.2.1 i a).1, (h2.2.1 i a).2.trans (h1.2.1 i a).2⟩, fun i a b => (h2.2.2.1 i a b).trans (h1.2.2.1 i a b), fun i a => (h2.2.2.2.1 i a).trans (h1.2.2.2.1 i a),
   fun i a => ⟨(h2.2.2.2.2.1 i a).1.trans (h1.2.2.2.2.1 i a).1, (h2.2.2.2.2.1 i a).2.1.trans (h1.2.2.2.2.1 i a).2.1, (h2.2.2.2.2.1 i a).2.2.trans (h1.2.2.2.2.1 i a).2.2⟩, fun i a => ⟨(h2.2.2.2.2.2 i a).1.trans (h1.2.2.2.2.2 i a).1, (h2.2.2.2.2.2 i a).2.trans (h1.2.2.2.2.2 i a).2⟩⟩
/-- .. the game that stands is as it was -/
theorem mz_R_G {d g : Nat} {A B : Nat → Nat → Int} (hd : d < 2) (hg : g < 2) (hgd : g ≠ d) (h : mz_R d A B) (hG : mg_G A g) (hD : mg_D A g) : mg_G B g ∧ mg_D B g := by
  obtain ⟨-, r14, r26, r28, r19, r22⟩ := h
  obtain ⟨⟨⟨n0, n1⟩, hE⟩, hS0, hS1, p0, p1, c⟩ := hG
  have e14 := (r14 g hgd).1
  have e25 := (r14 g hgd).2
  have e26 : ∀ p, p < 2 → B 26 (2 * g + p) = A 26 (2 * g + p) := fun p hp => r26 _ (by omega) (by omega)
  have e28 : ∀ p s, p < 2 → s < 10 → B 28 (20 * g + (10 * p + s)) = A 28 (20 * g + (10 * p + s)) := fun p s hp hs => r28 _ (by omega)
  have epp : ∀ p n, p < 2 → n ≤ 10 → lq_pp B g p n = lq_pp A g p n := fun p n hp hn => by
    induction n with
    | zero => rfl
    | succ n ih => simp only [lq_pp]; rw [ih (by omega), e28 p n hp (by omega)]
  have ex : ∀ e : Nat, (e : Int) < A 14 g → B 19 (400 * g + e) = A 19 (400 * g + e) ∧ B 20 (400 * g + e) = A 20 (400 * g + e) ∧ B 21 (400 * g + e) = A 21 (400 * g + e) := fun e he => r19 _ (by omega)
  have ew : ∀ e : Nat, (e : Int) < A 14 g → ∀ w : Nat, A 20 (400 * g + e) ≤ w → (w : Int) < A 20 (400 * g + e) + A 21 (400 * g + e) → B 22 w = A 22 w ∧ B 23 w = A 23 w := fun e he w w0 w1 => r22 w (by have := hD.1 e he; omega)
  have hS : ∀ p, p < 2 → mg_S A g p → mg_S B g p := fun p hp ⟨a, b⟩ => by
    refine ⟨by rw [e26 p hp]; exact a, fun s hs => ?_⟩
    rw [e26 p hp] at hs
    rw [e28 p s hp (by omega)]
    exact b s hs
  refine ⟨⟨⟨by rw [e14]; exact ⟨n0, n1⟩, fun e he => ?_⟩, hS 0 (by decide) hS0, hS 1 (by decide) hS1, ?_, ?_, by rw [e25]; exact c⟩, fun e he => ?_, fun e he v w v0 vw w1 => ?_⟩
  · rw [e14] at he
    obtain ⟨x1, x2, x3⟩ := ex e he
    rw [x1, x2, x3]
    obtain ⟨y1, y2, y3⟩ := hE e he
    refine ⟨y1, y2, fun w w0 w1 => ?_⟩
    obtain ⟨u1, u2⟩ := ew e he w w0 w1
    rw [u1, u2]
    exact y3 w w0 w1
  · rw [e26 0 (by decide), epp 0 _ (by decide) (by have := hS0.1; omega)]
    exact p0
  · rw [e26 1 (by decide), epp 1 _ (by decide) (by have := hS1.1; omega)]
    exact p1
  · rw [e14] at he
    obtain ⟨x1, x2, x3⟩ := ex e he
    rw [x2, x3]
    exact hD.1 e he
  · rw [e14] at he
    obtain ⟨x1, x2, x3⟩ := ex e he
    rw [x2] at v0
    rw [x2, x3] at w1
    rw [(ew e he v v0 (by omega)).1, (ew e he w (by omega) w1).1]
    exact hD.2 e he v w v0 vw w1

-- 56.begin
noncomputable def go_C (B : Nat → Nat → Int) (d : Nat) : Prop := (0 ≤ B 14 d ∧ B 14 d ≤ B 13 d ∧ B 13 d ≤ 400) ∧ 0 ≤ B 24 d ∧ B 24 d ≤ 20 * B 14 d
noncomputable def go_N (B : Nat → Nat → Int) (o : Nat) (c : Int) : Prop := ∀ j, j < o → (0 ≤ B 37 j ∧ B 37 j < 4001) ∧ (B 38 j = 63 ∨ B 38 j = 65 ∨ B 38 j = 66) ∧ (-1 ≤ B 40 j ∧ B 40 j + 1 ≤ c) ∧ (1 ≤ B 41 j ∧ B 41 j ≤ B 42 j ∧ B 42 j < 1000000000)
noncomputable def go_H (B : Nat → Nat → Int) (o : Nat) : Prop := ∀ j, j < o → B 38 j = 63 → ∀ i : Nat, i < 8 → (i : Int) ≤ B 40 j → (1 ≤ B 44 (9 * j + i) ∧ B 44 (9 * j + i) ≤ 9999) ∧ (0 ≤ B 43 (9 * j + i) ∧ B 43 (9 * j + i) ≤ 9999)
noncomputable def go_Z (B : Nat → Nat → Int) (d o : Nat) (x : Int) : Prop := ∀ p, p < 2 → ∀ s : Nat, (s : Int) < B 26 (2 * d + p) → B 28 (20 * d + (10 * p + s)) = 0 → ((10 * p + s : Nat) : Int) = x ∨ ∃ j, j < o ∧ B 38 j ≠ 63 ∧ B 39 j = ((10 * p + s : Nat) : Int)
noncomputable def go_E (B : Nat → Nat → Int) (d o : Nat) : Prop := ∀ e : Nat, (e : Int) < B 14 d → (8000 * (d : Int) ≤ B 20 (400 * d + e) ∧ 0 ≤ B 21 (400 * d + e) ∧ B 20 (400 * d + e) + B 21 (400 * d + e) ≤ 8000 * (d : Int) + B 24 d) ∧ (-10000000000000 ≤ B 17 (400 * d + e) ∧ B 17 (400 * d + e) ≤ 10000000000000) ∧ (1 ≤ B 18 (400 * d + e) ∧ B 18 (400 * d + e) ≤ 10000000000000) ∧
  (∀ w : Nat, B 20 (400 * d + e) ≤ w → (w : Int) < B 20 (400 * d + e) + B 21 (400 * d + e) → (0 ≤ B 22 w ∧ B 22 w < 20) ∧ 0 ≤ B 23 w ∧ (B 23 w < 4 ∨ ∃ j, j < o ∧ B 38 j ≠ 63 ∧ 4 ≤ B 40 j)) ∧ (∀ v w : Nat, B 20 (400 * d + e) ≤ v → v < w → (w : Int) < B 20 (400 * d + e) + B 21 (400 * d + e) → B 22 v ≠ B 22 w)
noncomputable def go_G (B : Nat → Nat → Int) (d o : Nat) (c x : Int) : Prop := go_N B o c ∧ go_S B d ∧ go_T B d o ∧ go_P B d o ∧ go_H B o ∧ go_Z B d o x ∧ go_E B d o
theorem go_keep {B C : Nat → Nat → Int} {d o : Nat} {c x : Int} (h : ∀ k, k ≠ 13 → k ≠ 15 → k ≠ 16 → C k = B k) (hG : go_G B d o c x) : go_G C d o c x := by
  have e : ∀ k, 16 < k → C k = B k := fun k hk => h k (by omega) (by omega) (by omega)
  have e14 := h 14 (by decide) (by decide) (by decide)
  have ec : ∀ p j, go_c C p j = go_c B p j := fun p j => go_c_congr p j (fun i _ => by rw [e 38 (by decide), e 39 (by decide)]; exact ⟨rfl, rfl⟩)
  unfold go_G go_N go_S go_T go_P go_H go_Z go_E at *
  simp only [ec]
  rw [e 17 (by decide), e 18 (by decide), e 20 (by decide), e 21 (by decide), e 22 (by decide), e 23 (by decide), e 24 (by decide), e 26 (by decide), e 27 (by decide), e 28 (by decide), e 29 (by decide), e 30 (by decide), e 31 (by decide), e 37 (by decide), e 38 (by decide), e 39 (by decide), e 40 (by decide), e 41 (by decide), e 42 (by decide), e 43 (by decide), e 44 (by decide), e14]
  exact hG
/-- what is wanted behind the open nodes -/
noncomputable def go_l (B : Nat → Nat → Int) : Nat → List Int
  | 0 => [0]
  | j + 1 => (if B 38 j = 63 then 304 else 305) :: 41 :: go_l B j
theorem go_l_congr {B C : Nat → Nat → Int} (o : Nat) (h : ∀ j, j < o → C 38 j = B 38 j) : go_l C o = go_l B o := by
  induction o with
  | zero => rfl
  | succ o ih => simp only [go_l]; rw [ih (fun j hj => h j (by omega)), h o (by omega)]
noncomputable def go_W (d : Nat) (A : Nat → Nat → Int) (z z' : Nat → Int) (C : Nat → Nat → Int) : Prop := (∀ q, q ≠ 35 → q ≠ 36 → q ≠ 45 → q ≠ 46 → q ≠ 47 → q ≠ 48 → z' q = z q) ∧ (0 ≤ z' 45 ∧ z' 45 ≤ 22) ∧ hz_rI (z' 35) ∧ mz_R d A C
noncomputable def go_I (t : Nat → Int) (d : Nat) (z' : Nat → Int) (C : Nat → Nat → Int) (k0 : Nat) : Prop := ∃ o k : Nat, z' 45 = (o : Int) ∧ z' 46 = (k : Int) ∧ k0 < k ∧ o ≤ 21 ∧ go_C C d ∧ go_G C d o (C 13 d) (-1) ∧ (∀ j, j + 1 < o → 0 ≤ C 40 j) ∧
  ((o = 0 ∧ ma_A t k [0]) ∨ ∃ j, o = j + 1 ∧ ((0 ≤ C 40 j ∧ ma_A t k (go_l C o)) ∨ (C 40 j = -1 ∧ ma_A t k ((if C 38 j = 63 then 303 else 300) :: go_l C o))))
/-- a new set beside the known ones -/
theorem go_new {B C : Nat → Nat → Int} {d o p s : Nat} {c told : Int} (hp : p < 2) (hs : (s : Int) = B 26 (2 * d + p)) (hs10 : s < 10) (ht : 0 ≤ told ∧ told ≤ 9999) (hC : ∀ k, k ≠ 26 → k ≠ 27 → k ≠ 28 → k ≠ 29 → C k = B k) (h26 : ∀ i, C 26 i = if i = 2 * d + p then (s : Int) + 1 else B 26 i) (h27 : ∀ i, C 27 i = if i = 20 * d + (10 * p + s) then told else B 27 i) (h28 : ∀ i, C 28 i = if i = 20 * d + (10 * p + s) then 0 else B 28 i) (h29 : ∀ i, C 29 i = if i = 20 * d + (10 * p + s) then -1 else B 29 i) (hG : go_G B d o c (-1)) : go_G C d o c ((10 * p + s : Nat) : Int) := by
  obtain ⟨hN, hS, hT, hP, hH, hZ, hE⟩ := hG
  have ec : ∀ p j, go_c C p j = go_c B p j := fun p j => go_c_congr p j (fun i _ => by rw [hC 38 (by decide) (by decide) (by decide) (by decide), hC 39 (by decide) (by decide) (by decide) (by decide)]; exact ⟨rfl, rfl⟩)
  -- known sets are others
  have oth : ∀ p' s' : Nat, p' < 2 → s' < 10 → (s' : Int) < B 26 (2 * d + p') → 20 * d + (10 * p' + s') ≠ 20 * d + (10 * p + s) := by
    intro p' s' hp' hs' h e
    have : p' = p ∧ s' = s := by omega
    rw [this.1, this.2] at h
    omega
  have m26 : ∀ p', p' < 2 → B 26 (2 * d + p') ≤ C 26 (2 * d + p') := fun p' hp' => by
    rw [h26]
    split
    · next e =>
      have : p' = p := by omega
      subst this
      omega
    · exact Int.le_refl _
  refine ⟨?_, fun p' hp' => ?_, fun j hj nd => ?_, fun j hj nd => ?_, ?_, fun p' hp' s' hs' h0 => ?_, ?_⟩
  · unfold go_N at *
    rw [hC 37 (by decide) (by decide) (by decide) (by decide), hC 38 (by decide) (by decide) (by decide) (by decide), hC 40 (by decide) (by decide) (by decide) (by decide), hC 41 (by decide) (by decide) (by decide) (by decide), hC 42 (by decide) (by decide) (by decide) (by decide)]
    exact hN
  · obtain ⟨⟨a0, a1⟩, hs2⟩ := hS p' hp'
    refine ⟨?_, fun s' hs' => ?_⟩
    · rw [h26]
      split <;> omega
    · rw [hC 30 (by decide) (by decide) (by decide) (by decide), hC 31 (by decide) (by decide) (by decide) (by decide), h27, h28, h29]
      by_cases e : p' = p ∧ s' = s
      · rw [e.1, e.2, if_pos rfl, if_pos rfl, if_pos rfl]
        exact ⟨ht, by omega, by omega, fun q hq => by omega⟩
      · have hlt : (s' : Int) < B 26 (2 * d + p') := by
          rw [h26] at hs'
          split at hs'
          · next e2 =>
            have : p' = p := by omega
            subst this
            omega
          · exact hs'
        have hne := oth p' s' hp' (by omega) hlt
        rw [if_neg hne, if_neg hne, if_neg hne]
        exact hs2 s' hlt
  · rw [hC 38 (by decide) (by decide) (by decide) (by decide)] at nd
    rw [hC 39 (by decide) (by decide) (by decide) (by decide)]
    obtain ⟨p', s', a, b, c', e⟩ := hT j hj nd
    have := m26 p' a
    exact ⟨p', s', a, b, c', by omega⟩
  · rw [hC 38 (by decide) (by decide) (by decide) (by decide)] at nd
    obtain ⟨p', s', a, b, c', e⟩ := hT j hj nd
    have h1 := hP j hj nd
    rw [hC 39 (by decide) (by decide) (by decide) (by decide), ec, h29]
    have e2 : (B 39 j).toNat = 10 * p' + s' := by omega
    rw [e2] at h1 ⊢
    rw [if_neg (oth p' s' a c' e)]
    exact h1
  · unfold go_H at *
    rw [hC 38 (by decide) (by decide) (by decide) (by decide), hC 40 (by decide) (by decide) (by decide) (by decide), hC 43 (by decide) (by decide) (by decide) (by decide), hC 44 (by decide) (by decide) (by decide) (by decide)]
    exact hH
  · by_cases e : p' = p ∧ s' = s
    · rw [e.1, e.2]
      exact Or.inl rfl
    · have hlt : (s' : Int) < B 26 (2 * d + p') := by
        rw [h26] at hs'
        split at hs'
        · next e2 =>
          have : p' = p := by omega
          subst this
          omega
        · exact hs'
      have h10 : s' < 10 := by have := (hS p' hp').1; omega
      rw [h28, if_neg (oth p' s' hp' h10 hlt)] at h0
      rw [hC 38 (by decide) (by decide) (by decide) (by decide), hC 39 (by decide) (by decide) (by decide) (by decide)]
      rcases hZ p' hp' s' hlt h0 with h | h
      · omega
      · exact Or.inr h
  · unfold go_E at *
    rw [hC 14 (by decide) (by decide) (by decide) (by decide), hC 17 (by decide) (by decide) (by decide) (by decide), hC 18 (by decide) (by decide) (by decide) (by decide), hC 20 (by decide) (by decide) (by decide) (by decide), hC 21 (by decide) (by decide) (by decide) (by decide), hC 22 (by decide) (by decide) (by decide) (by decide), hC 23 (by decide) (by decide) (by decide) (by decide), hC 24 (by decide) (by decide) (by decide) (by decide), hC 38 (by decide) (by decide) (by decide) (by decide), hC 40 (by decide) (by decide) (by decide) (by decide)]
    exact hE
/-- a node more that is open -/
theorem go_push {B C : Nat → Nat → Int} {d o : Nat} {c x kd st wd tp bt : Int} (hC : ∀ k, k ≠ 15 → k ≠ 16 → k ≠ 29 → k ≠ 30 → k ≠ 31 → (k < 37 ∨ 42 < k) → C k = B k) (h37 : ∀ j, C 37 j = if j = o then wd else B 37 j) (h38 : ∀ j, C 38 j = if j = o then kd else B 38 j) (h39 : ∀ j, C 39 j = if j = o then st else B 39 j) (h40 : ∀ j, C 40 j = if j = o then -1 else B 40 j) (h41 : ∀ j, C 41 j = if j = o then tp else B 41 j) (h42 : ∀ j, C 42 j = if j = o then bt else B 42 j)
    (hc : 0 ≤ c) (hwd : 0 ≤ wd ∧ wd < 4001) (hkd : kd = 63 ∨ kd = 65 ∨ kd = 66) (htp : 1 ≤ tp ∧ tp ≤ bt ∧ bt < 1000000000) (hS : go_S C d) (hst : kd ≠ 63 → ∃ p s : Nat, p < 2 ∧ st = ((10 * p + s : Nat) : Int) ∧ s < 10 ∧ (s : Int) < B 26 (2 * d + p))
    (h29 : ∀ j, j < o → B 38 j ≠ 63 → C 29 (20 * d + (B 39 j).toNat) = go_c B (B 39 j / 10) j) (h29' : kd ≠ 63 → C 29 (20 * d + st.toNat) = go_c B (st / 10) o) (hx : x = -1 ∨ (x = st ∧ kd ≠ 63)) (hG : go_G B d o c x) : go_G C d (o + 1) c (-1) := by
  obtain ⟨hN, -, hT, hP, hH, hZ, hE⟩ := hG
  have ec : ∀ p j, j ≤ o → go_c C p j = go_c B p j := fun p j hj => go_c_congr p j (fun i hi => by rw [h38, h39, if_neg (by omega), if_neg (by omega)]; exact ⟨rfl, rfl⟩)
  have e26 : C 26 = B 26 := hC 26 (by decide) (by decide) (by decide) (by decide) (by decide) (by decide)
  have e28 : C 28 = B 28 := hC 28 (by decide) (by decide) (by decide) (by decide) (by decide) (by decide)
  refine ⟨fun j hj => ?_, hS, fun j hj nd => ?_, fun j hj nd => ?_, fun j hj dr i hi hi2 => ?_, fun p hp s hs h0 => ?_, ?_⟩
  · rw [h37, h38, h40, h41, h42]
    by_cases e : j = o
    · simp only [if_pos e]
      exact ⟨hwd, hkd, by omega, htp⟩
    · simp only [if_neg e]
      exact hN j (by omega)
  · rw [h38] at nd
    rw [h39, e26]
    by_cases e : j = o
    · rw [if_pos e] at nd ⊢
      exact hst nd
    · rw [if_neg e] at nd ⊢
      exact hT j (by omega) nd
  · rw [h38] at nd
    rw [h39, ec _ j (by omega)]
    by_cases e : j = o
    · rw [if_pos e] at nd ⊢
      rw [e]
      exact h29' nd
    · rw [if_neg e] at nd ⊢
      exact h29 j (by omega) nd
  · rw [h38] at dr
    rw [h40] at hi2
    rw [hC 43 (by decide) (by decide) (by decide) (by decide) (by decide) (by decide), hC 44 (by decide) (by decide) (by decide) (by decide) (by decide) (by decide)]
    by_cases e : j = o
    · rw [if_pos e] at hi2
      omega
    · rw [if_neg e] at dr hi2
      exact hH j (by omega) dr i hi hi2
  · rw [e26] at hs
    rw [e28] at h0
    refine Or.inr ?_
    rcases hZ p hp s hs h0 with h | ⟨j, j1, j2, j3⟩
    · rcases hx with h1 | ⟨h1, h2⟩
      · omega
      · exact ⟨o, by omega, by rw [h38, if_pos rfl]; exact h2, by rw [h39, if_pos rfl, ← h1]; exact h.symm⟩
    · exact ⟨j, by omega, by rw [h38, if_neg (by omega)]; exact j2, by rw [h39, if_neg (by omega)]; exact j3⟩
  · intro e he
    have g : ∀ k, k = 14 ∨ k = 17 ∨ k = 18 ∨ k = 20 ∨ k = 21 ∨ k = 22 ∨ k = 23 ∨ k = 24 → C k = B k := fun k hk => hC k (by omega) (by omega) (by omega) (by omega) (by omega) (by omega)
    rw [g 14 (by decide)] at he
    obtain ⟨a, b, c', f, i⟩ := hE e he
    rw [g 17 (by decide), g 18 (by decide), g 20 (by decide), g 21 (by decide), g 22 (by decide), g 23 (by decide), g 24 (by decide)]
    refine ⟨a, b, c', fun w w0 w1 => ?_, i⟩
    obtain ⟨q1, q2, q3⟩ := f w w0 w1
    refine ⟨q1, q2, ?_⟩
    rcases q3 with h | ⟨j, j1, j2, j3⟩
    · exact Or.inl h
    · exact Or.inr ⟨j, by omega, by rw [h38, if_neg (by omega)]; exact j2, by rw [h40, if_neg (by omega)]; exact j3⟩
/-- an end more -/
theorem go_end {B C : Nat → Nat → Int} {d o e0 f : Nat} {c t b : Int} (ho : o ≤ 20) (he : B 14 d = (e0 : Int)) (hf : B 24 d = (f : Int)) (hC : ∀ k, k ≠ 14 → k ≠ 17 → k ≠ 18 → k ≠ 20 → k ≠ 21 → k ≠ 22 → k ≠ 23 → k ≠ 24 → C k = B k) (h14 : ∀ i, C 14 i = if i = d then (e0 : Int) + 1 else B 14 i) (h24 : C 24 d = (f : Int) + go_a B o) (ht : -10000000000000 ≤ t ∧ t ≤ 10000000000000) (hb : 1 ≤ b ∧ b ≤ 10000000000000)
    (h17 : ∀ i, C 17 i = if i = 400 * d + e0 then t else B 17 i) (h18 : ∀ i, C 18 i = if i = 400 * d + e0 then b else B 18 i) (h20 : ∀ i, C 20 i = if i = 400 * d + e0 then ((8000 * d + f : Nat) : Int) else B 20 i) (h21 : ∀ i, C 21 i = if i = 400 * d + e0 then ((go_a B o : Nat) : Int) else B 21 i)
    (hout : ∀ w : Nat, (w < 8000 * d + f ∨ 8000 * d + f + go_a B o ≤ w) → C 22 w = B 22 w ∧ C 23 w = B 23 w) (hin : ∀ q, q < go_a B o → ∃ j, j < o ∧ B 38 j ≠ 63 ∧ go_a B j = q ∧ C 22 (8000 * d + f + q) = B 39 j ∧ C 23 (8000 * d + f + q) = B 40 j) (hmv : ∀ j, j < o → 0 ≤ B 40 j) (hG : go_G B d o c (-1)) : go_G C d o c (-1) := by
  obtain ⟨hN, hS, hT, hP, hH, hZ, hE⟩ := hG
  have e : ∀ k, 24 < k → C k = B k := fun k hk => hC k (by omega) (by omega) (by omega) (by omega) (by omega) (by omega) (by omega) (by omega)
  have ec : ∀ p j, go_c C p j = go_c B p j := fun p j => go_c_congr p j (fun i _ => by rw [e 38 (by decide), e 39 (by decide)]; exact ⟨rfl, rfl⟩)
  refine ⟨?_, ?_, ?_, ?_, ?_, ?_, ?_⟩
  · unfold go_N at *
    rw [e 37 (by decide), e 38 (by decide), e 40 (by decide), e 41 (by decide), e 42 (by decide)]
    exact hN
  · unfold go_S at *
    rw [e 26 (by decide), e 27 (by decide), e 28 (by decide), e 29 (by decide), e 30 (by decide), e 31 (by decide)]
    exact hS
  · unfold go_T at *
    rw [e 26 (by decide), e 38 (by decide), e 39 (by decide)]
    exact hT
  · unfold go_P at *
    simp only [ec]
    rw [e 29 (by decide), e 38 (by decide), e 39 (by decide)]
    exact hP
  · unfold go_H at *
    rw [e 38 (by decide), e 40 (by decide), e 43 (by decide), e 44 (by decide)]
    exact hH
  · unfold go_Z at *
    rw [e 26 (by decide), e 28 (by decide), e 38 (by decide), e 39 (by decide)]
    exact hZ
  · intro e1 he1
    rw [h14, if_pos rfl] at he1
    rw [e 38 (by decide), e 40 (by decide), h24]
    by_cases en : e1 = e0
    · subst en
      rw [h17, h18, h20, h21, if_pos rfl, if_pos rfl, if_pos rfl, if_pos rfl]
      refine ⟨by omega, ht, hb, fun w w0 w1 => ?_, fun v w v0 vw w1 => ?_⟩
      · obtain ⟨j, j1, j2, j3, j4, j5⟩ := hin (w - (8000 * d + f)) (by omega)
        have ew : 8000 * d + f + (w - (8000 * d + f)) = w := by omega
        rw [ew] at j4 j5
        rw [j4, j5]
        obtain ⟨p, s, p1, p2, p3, p4⟩ := hT j j1 j2
        have hm := hmv j j1
        refine ⟨by omega, hm, ?_⟩
        by_cases h4 : B 40 j < 4
        · exact Or.inl h4
        · exact Or.inr ⟨j, j1, j2, by omega⟩
      · obtain ⟨i, i1, i2, i3, i4, i5⟩ := hin (v - (8000 * d + f)) (by omega)
        obtain ⟨j, j1, j2, j3, j4, j5⟩ := hin (w - (8000 * d + f)) (by omega)
        have ev : 8000 * d + f + (v - (8000 * d + f)) = v := by omega
        have ew : 8000 * d + f + (w - (8000 * d + f)) = w := by omega
        rw [ev] at i4
        rw [ew] at j4
        rw [i4, j4]
        have hne : i ≠ j := fun h => by subst h; omega
        by_cases hij : i < j
        · exact go_dist hP hij j1 i2 j2
        · exact fun h => go_dist hP (show j < i by omega) i1 j2 i2 h.symm
    · rw [h17, h18, h20, h21, if_neg (by omega), if_neg (by omega), if_neg (by omega), if_neg (by omega)]
      obtain ⟨a, b', c', f', i'⟩ := hE e1 (by omega)
      rw [hf] at a
      refine ⟨by omega, b', c', fun w w0 w1 => ?_, fun v w v0 vw w1 => ?_⟩
      · obtain ⟨o1, o2⟩ := hout w (by omega)
        rw [o1, o2]
        exact f' w w0 w1
      · rw [(hout v (by omega)).1, (hout w (by omega)).1]
        exact i' v w v0 vw w1

-- 57.beginNode
theorem go_tok {d n : Nat} {A B : Nat → Nat → Int} (h : mz_R d A B) (hT : mc_T A n) : mc_T B n ∧ ma_t B n = ma_t A n := by
  have e7 := h.1 7 (by decide) (by decide)
  have e8 := h.1 8 (by decide) (by decide)
  have e9 := h.1 9 (by decide) (by decide)
  unfold mc_T mc_K ma_t at *
  rw [e7, e8, e9]
  exact ⟨hT, rfl⟩
theorem go_six {D A5 A6 A7 A8 A9 A10 : Nat → Nat → Int} {i a b c e f g : Int} {o : Nat} (hi : i = (o : Int)) (h5 : A5 = hz_s D 37 i a) (h6 : A6 = hz_s A5 38 i b) (h7 : A7 = hz_s A6 39 i c) (h8 : A8 = hz_s A7 40 i e) (h9 : A9 = hz_s A8 41 i f) (h10 : A10 = hz_s A9 42 i g) :
    (∀ q, (q < 37 ∨ 42 < q) → A10 q = D q) ∧ (∀ j, A10 37 j = if j = o then a else D 37 j) ∧ (∀ j, A10 38 j = if j = o then b else D 38 j) ∧ (∀ j, A10 39 j = if j = o then c else D 39 j) ∧ (∀ j, A10 40 j = if j = o then e else D 40 j) ∧ (∀ j, A10 41 j = if j = o then f else D 41 j) ∧ (∀ j, A10 42 j = if j = o then g else D 42 j) := by
  have ei : i.toNat = o := by omega
  have o5 : ∀ q, q ≠ 37 → A5 q = D q := fun q h => by rw [h5, hb_s_other h]
  have o6 : ∀ q, q ≠ 38 → A6 q = A5 q := fun q h => by rw [h6, hb_s_other h]
  have o7 : ∀ q, q ≠ 39 → A7 q = A6 q := fun q h => by rw [h7, hb_s_other h]
  have o8 : ∀ q, q ≠ 40 → A8 q = A7 q := fun q h => by rw [h8, hb_s_other h]
  have o9 : ∀ q, q ≠ 41 → A9 q = A8 q := fun q h => by rw [h9, hb_s_other h]
  have o10 : ∀ q, q ≠ 42 → A10 q = A9 q := fun q h => by rw [h10, hb_s_other h]
  refine ⟨fun q hq => ?_, fun j => ?_, fun j => ?_, fun j => ?_, fun j => ?_, fun j => ?_, fun j => ?_⟩
  · rw [o10 q (by omega), o9 q (by omega), o8 q (by omega), o7 q (by omega), o6 q (by omega), o5 q (by omega)]
  · rw [o10 37 (by decide), o9 37 (by decide), o8 37 (by decide), o7 37 (by decide), o6 37 (by decide), h5, lq_s_fun]
    unfold hz_u
    rw [ei]
  · rw [o10 38 (by decide), o9 38 (by decide), o8 38 (by decide), o7 38 (by decide), h6, lq_s_fun]
    unfold hz_u
    rw [ei, o5 38 (by decide)]
  · rw [o10 39 (by decide), o9 39 (by decide), o8 39 (by decide), h7, lq_s_fun]
    unfold hz_u
    rw [ei, o6 39 (by decide), o5 39 (by decide)]
  · rw [o10 40 (by decide), o9 40 (by decide), h8, lq_s_fun]
    unfold hz_u
    rw [ei, o7 40 (by decide), o6 40 (by decide), o5 40 (by decide)]
  · rw [o10 41 (by decide), h9, lq_s_fun]
    unfold hz_u
    rw [ei, o8 41 (by decide), o7 41 (by decide), o6 41 (by decide), o5 41 (by decide)]
  · rw [h10, lq_s_fun]
    unfold hz_u
    rw [ei, o9 42 (by decide), o8 42 (by decide), o7 42 (by decide), o6 42 (by decide), o5 42 (by decide)]
/-- what stays when only cells of the draft that no other game uses are changed -/
theorem go_R {d : Nat} {D C : Nat → Nat → Int} (h : ∀ q, (q < 13 ∨ 31 < q) → (q < 37 ∨ 44 < q) → C q = D q) (e : ∀ q, (q = 14 ∨ q = 25 ∨ q = 26 ∨ q = 28 ∨ q = 19 ∨ q = 20 ∨ q = 21 ∨ q = 22 ∨ q = 23) → C q = D q) : mz_R d D C :=
  ⟨h, fun i _ => by rw [e 14 (by decide), e 25 (by decide)]; exact ⟨rfl, rfl⟩, fun i _ _ => by rw [e 26 (by decide)], fun i _ => by rw [e 28 (by decide)], fun i _ => by rw [e 19 (by decide), e 20 (by decide), e 21 (by decide)]; exact ⟨rfl, rfl, rfl⟩, fun i _ => by rw [e 22 (by decide), e 23 (by decide)]; exact ⟨rfl, rfl⟩⟩
theorem go_opened {t : Nat → Int} {D C : Nat → Nat → Int} {d o k k' : Nat} {z' : Nat → Int} {kd : Int} (hC : go_C D d) (e13 : C 13 d = D 13 d) (e14 : C 14 d = D 14 d) (e24 : C 24 d = D 24 d) (h38 : ∀ j, C 38 j = if j = o then kd else D 38 j) (h40 : ∀ j, C 40 j = if j = o then -1 else D 40 j) (hG : go_G C d (o + 1) (D 13 d) (-1)) (ho2 : o ≤ 20) (hmv : ∀ j, j < o → 0 ≤ D 40 j) (h45 : z' 45 = ((o + 1 : Nat) : Int)) (h46 : z' 46 = (k' : Int)) (hk : k < k')
    (hA : ma_A t k' ((if kd = 63 then 303 else 300) :: (if kd = 63 then 304 else 305) :: 41 :: go_l D o)) : go_I t d z' C k := by
  refine ⟨o + 1, k', h45, h46, hk, by omega, ?_, by rw [e13]; exact hG, fun j hj => ?_, Or.inr ⟨o, rfl, Or.inr ⟨by rw [h40, if_pos rfl], ?_⟩⟩⟩
  · unfold go_C at *
    rw [e13, e14, e24]
    exact hC
  · rw [h40, if_neg (by omega)]
    exact hmv j (by omega)
  · have e : go_l C o = go_l D o := go_l_congr o (fun j hj => by rw [h38, if_neg (by omega)])
    simp only [go_l]
    rw [e, h38, if_pos rfl]
    exact hA
-- 58.node