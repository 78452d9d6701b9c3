-- 175.pivot
/-- the coordinates n-1, .., 0 -/
noncomputable def lp_L : Nat → List Nat
  | 0 => []
  | n + 1 => n :: lp_L n
theorem lp_L_mem {n t : Nat} : t ∈ lp_L n ↔ t < n := by
  induction n with
  | zero => simp [lp_L]
  | succ n ih => simp only [lp_L, List.mem_cons, ih]; omega
/-- unit vectors -/
noncomputable def lp_e (k : Nat) : Nat → Int := fun t => if t = k then 1 else 0
theorem lp_e_same (k : Nat) : lp_e k k = 1 := if_pos rfl
theorem lp_e_other {k t : Nat} (h : t ≠ k) : lp_e k t = 0 := if_neg h
theorem lp_X_zerov {v : Nat → Int} {F : List Nat → Int} {S : List Nat} (h : ∀ t ∈ S, v t = 0) : lp_X v F S = 0 := by
  induction S generalizing F with
  | nil => rfl
  | cons s S ih =>
    simp only [lp_X]
    rw [h s List.mem_cons_self, ih (fun t ht => h t (List.mem_cons_of_mem _ ht))]
    omega
theorem lp_X_coord {v : Nat → Int} {F : List Nat → Int} {s : Nat} (hv : v s = 0) (hF : ∀ T, s ∈ T → F T = 0) {S : List Nat} (hs : s ∈ S) : lp_X v F S = 0 := by
  induction S generalizing F with
  | nil => rfl
  | cons u S ih =>
    simp only [lp_X]
    by_cases e : s ∈ S
    · rw [hF S e, ih (F := fun T => F (u :: T)) (fun T hT => hF _ (List.mem_cons_of_mem _ hT)) e]
      omega
    · have hu : s = u := by
        cases hs with
        | head => rfl
        | tail _ h => exact absurd h e
      subst hu
      have h0 : (fun T => F (s :: T)) = (fun _ => 0) := by
        funext T
        exact hF _ List.mem_cons_self
      rw [hv, h0, lp_X_zeroF]
      omega
theorem lp_E_coord {b : Nat → Nat → Int} {n s : Nat} (h : ∀ k, k < n → b k s = 0) {T : List Nat} (hs : s ∈ T) : lp_E b n T = 0 := by
  induction n generalizing T with
  | zero =>
    simp only [lp_E]
    exact if_neg (fun e => by rw [e] at hs; cases hs)
  | succ n ih =>
    exact lp_X_coord (h n (by omega)) (fun T hT => ih (fun k hk => h k (by omega)) hT) hs
theorem lp_E_unit (n k : Nat) (hk : k < n) (x : Nat → Int) : lp_E (lp_U lp_e k x) n (lp_L n) = x k := by
  induction n with
  | zero => omega
  | succ n ih =>
    simp only [lp_E, lp_L, lp_X]
    by_cases e : k = n
    · subst e
      have h0 : (fun T => lp_E (lp_U lp_e k x) k (k :: T)) = (fun _ => 0) := by
        funext T
        exact lp_E_coord (s := k) (fun i hi => by rw [lp_U_other (by omega)]; exact lp_e_other (by omega)) List.mem_cons_self
      have h1 : ∀ m, m ≤ k → lp_E (lp_U lp_e k x) m (lp_L m) = 1 := by
        intro m hm
        induction m with
        | zero => rfl
        | succ m ihm =>
          simp only [lp_E, lp_L, lp_X]
          rw [lp_U_other (by omega), lp_e_same, ihm (by omega), lp_X_zerov (fun t ht => lp_e_other (by have := lp_L_mem.mp ht; omega))]
          rfl
      rw [lp_U_same, h0, lp_X_zeroF, h1 k (Nat.le_refl k)]
      omega
    · rw [lp_U_other (by omega), lp_e_same, ih (by omega), lp_X_zerov (fun t ht => lp_e_other (by have := lp_L_mem.mp ht; omega))]
      omega
theorem lp_E_units (n : Nat) : lp_E lp_e n (lp_L n) = 1 := by
  induction n with
  | zero => rfl
  | succ n ih =>
    simp only [lp_E, lp_L, lp_X]
    rw [lp_e_same, ih, lp_X_zerov (fun t ht => lp_e_other (by have := lp_L_mem.mp ht; omega))]
    rfl
/-- the size of a vector over coordinates -/
noncomputable def lp_A (v : Nat → Int) : List Nat → Nat
  | [] => 0
  | s :: S => (v s).natAbs + lp_A v S
theorem lp_A_sub {v : Nat → Int} {T S : List Nat} (h : List.Sublist T S) : lp_A v T ≤ lp_A v S := by
  induction h with
  | slnil => exact Nat.le_refl _
  | cons a _ ih => simp only [lp_A]; omega
  | cons_cons a _ ih => simp only [lp_A]; omega
theorem lp_X_bound {v : Nat → Int} {F : List Nat → Int} {S : List Nat} {C : Nat} (h : ∀ T, List.Sublist T S → (F T).natAbs ≤ C) : (lp_X v F S).natAbs ≤ lp_A v S * C := by
  induction S generalizing F with
  | nil => simp [lp_X]
  | cons s S ih =>
    have h1 := h S (List.sublist_cons_self s S)
    have h2 := ih (F := fun T => F (s :: T)) (fun T hT => h _ (List.Sublist.cons_cons s hT))
    have h3 : (v s * F S).natAbs ≤ (v s).natAbs * C := by
      rw [Int.natAbs_mul]
      exact Nat.mul_le_mul_left _ h1
    simp only [lp_X, lp_A]
    rw [Nat.add_mul]
    omega
theorem lp_E_bound {b : Nat → Nat → Int} {n N : Nat} {S : List Nat} (h : ∀ k, k < n → lp_A (b k) S ≤ N) : (lp_E b n S).natAbs ≤ N ^ n := by
  have key : ∀ T, List.Sublist T S → (lp_E b n T).natAbs ≤ N ^ n := by
    induction n with
    | zero =>
      intro T _
      simp only [lp_E]
      split <;> simp
    | succ n ih =>
      intro T hT
      simp only [lp_E]
      refine Nat.le_trans (lp_X_bound (C := N ^ n) (fun U hU => ih (fun k hk => h k (by omega)) U (hU.trans hT))) ?_
      rw [Nat.pow_succ, Nat.mul_comm]
      exact Nat.mul_le_mul_left _ (Nat.le_trans (lp_A_sub hT) (h n (by omega)))
  exact key S (List.Sublist.refl S)
/-- Cramer's rule, for this b -/
noncomputable def lp_C (b : Nat → Nat → Int) (n : Nat) : Prop := ∀ (x : Nat → Int) (t : Nat), t < n → lp_E b n (lp_L n) * x t = lp_S n (fun k => lp_E (lp_U b k x) n (lp_L n) * b k t)
theorem lp_C_start (n : Nat) : lp_C lp_e n := by
  intro x t ht
  rw [lp_E_units, lp_S_one ht _ (fun i hi hit => by rw [lp_e_other (Ne.symm hit)]; omega), lp_E_unit n t ht, lp_e_same]
  omega
/-- a functional that is linear in one place, put on a vector that Cramer's rule tells -/
theorem lp_C_use {b c : Nat → Nat → Int} {n i : Nat} (hC : lp_C b n) (hi : i < n) (x : Nat → Int) : lp_E b n (lp_L n) * lp_E (lp_U c i x) n (lp_L n) = lp_S n (fun k => lp_E (lp_U b k x) n (lp_L n) * lp_E (lp_U c i (b k)) n (lp_L n)) := by
  have h1 := lp_E_lin c n i hi (lp_E b n (lp_L n)) 0 x x (lp_L n)
  have h2 : lp_E (lp_U c i (fun t => lp_E b n (lp_L n) * x t + 0 * x t)) n (lp_L n) = lp_E (lp_U c i (fun t => lp_S n (fun k => lp_E (lp_U b k x) n (lp_L n) * b k t))) n (lp_L n) := by
    refine lp_E_congr (fun j _ t ht => ?_)
    have := hC x t (lp_L_mem.mp ht)
    simp only [lp_U]
    split
    · dsimp only
      omega
    · rfl
  rw [h2, lp_E_sum c n i n hi] at h1
  omega
theorem lp_pivot {b : Nat → Nat → Int} {n r i : Nat} (hC : lp_C b n) (hr : r < n) (hi : i < n) (hir : i ≠ r) (c x : Nat → Int) :
    lp_E b n (lp_L n) * lp_E (lp_U (lp_U b r c) i x) n (lp_L n) = lp_E (lp_U b r c) n (lp_L n) * lp_E (lp_U b i x) n (lp_L n) - lp_E (lp_U b i c) n (lp_L n) * lp_E (lp_U b r x) n (lp_L n) := by
  rw [lp_C_use hC hi x]
  have hz : ∀ k, k < n → k ≠ i → k ≠ r → lp_E (lp_U b k x) n (lp_L n) * lp_E (lp_U (lp_U b r c) i (b k)) n (lp_L n) = 0 := by
    intro k hk hki hkr
    rw [lp_E_dup' (lp_U (lp_U b r c) i (b k)) n k i hki hk hi (by rw [lp_U_other hki, lp_U_other hkr, lp_U_same])]
    omega
  rw [lp_S_two hi hr hir _ hz]
  have e1 : lp_U (lp_U b r c) i (b i) = lp_U b r c := by
    have := lp_U_self (lp_U b r c) i
    rw [lp_U_other hir] at this
    exact this
  have e2 : lp_E (lp_U (lp_U b r c) i (b r)) n (lp_L n) = - lp_E (lp_U b i c) n (lp_L n) := by
    rw [lp_E_swap b n r i (Ne.symm hir) hr hi c (b r), lp_U_self]
  simp only [e1, e2]
  grind
theorem lp_C_step {b : Nat → Nat → Int} {n r : Nat} (hC : lp_C b n) (hr : r < n) (c : Nat → Int) (hd : lp_E b n (lp_L n) ≠ 0) : lp_C (lp_U b r c) n := by
  intro x t ht
  have h1 := hC x t ht
  have h2 := hC c t ht
  refine Int.eq_of_mul_eq_mul_left hd ?_
  have h3 : lp_E b n (lp_L n) * lp_S n (fun k => lp_E (lp_U (lp_U b r c) k x) n (lp_L n) * lp_U b r c k t) = lp_S n (fun k => (lp_E (lp_U b r c) n (lp_L n) * (lp_E (lp_U b k x) n (lp_L n) * b k t) + (- lp_E (lp_U b r x) n (lp_L n)) * (lp_E (lp_U b k c) n (lp_L n) * b k t)) + (if k = r then lp_E b n (lp_L n) * lp_E (lp_U b r x) n (lp_L n) * c t else 0)) := by
    rw [← lp_S_mul]
    refine lp_S_congr (fun k hk => ?_)
    by_cases e : k = r
    · subst e
      rw [lp_U_U, lp_U_same, if_pos rfl]
      grind
    · have h := lp_pivot hC hr hk e c x
      rw [lp_U_other (b := b) e, if_neg e]
      grind
  rw [h3, lp_S_add, lp_S_lin, ← h1, ← h2, lp_S_one hr _ (fun i _ hi => if_neg hi), if_pos rfl]
  grind

-- 176.bland
/-- the vectors of a basis: those of its rows, and the goal's -/
noncomputable def lp_b (m : Nat) (M : Nat → Nat → Int) (β : Nat → Nat) : Nat → Nat → Int := fun k => if k = m then lp_e m else M (β k)
noncomputable def lp_d (m : Nat) (M : Nat → Nat → Int) (β : Nat → Nat) : Int := lp_E (lp_b m M β) (m + 1) (lp_L (m + 1))
noncomputable def lp_R (m : Nat) (M : Nat → Nat → Int) (β : Nat → Nat) (i : Nat) (x : Nat → Int) : Int := lp_E (lp_U (lp_b m M β) i x) (m + 1) (lp_L (m + 1))
theorem lp_b_at {m : Nat} {M : Nat → Nat → Int} {β : Nat → Nat} {k : Nat} (h : k < m) : lp_b m M β k = M (β k) := if_neg (by omega)
theorem lp_b_goal (m : Nat) (M : Nat → Nat → Int) (β : Nat → Nat) : lp_b m M β m = lp_e m := if_pos rfl
theorem lp_b_step {m : Nat} {M : Nat → Nat → Int} {β : Nat → Nat} {r c : Nat} (hr : r < m) : lp_b m M (lp_U β r c) = lp_U (lp_b m M β) r (M c) := by
  funext k
  simp only [lp_b, lp_U]
  by_cases e : k = m
  · rw [if_pos e, if_neg (by omega), if_pos e]
  · rw [if_neg e]
    by_cases e2 : k = r
    · rw [if_pos e2, if_pos e2]
    · rw [if_neg e2, if_neg e2, if_neg e]
theorem lp_b_congr {m : Nat} {M : Nat → Nat → Int} {β γ : Nat → Nat} (h : ∀ k, k < m → β k = γ k) {k : Nat} (hk : k < m + 1) : lp_b m M β k = lp_b m M γ k := by
  simp only [lp_b]
  split
  · rfl
  · rw [h k (by omega)]
theorem lp_d_congr {m : Nat} {M : Nat → Nat → Int} {β γ : Nat → Nat} (h : ∀ k, k < m → β k = γ k) : lp_d m M β = lp_d m M γ :=
  lp_E_congr (fun i hi t _ => by rw [lp_b_congr h hi])
theorem lp_R_congr {m : Nat} {M : Nat → Nat → Int} {β γ : Nat → Nat} (h : ∀ k, k < m → β k = γ k) (i : Nat) (x : Nat → Int) : lp_R m M β i x = lp_R m M γ i x :=
  lp_E_congr (fun j hj t _ => by simp only [lp_U]; split; rfl; rw [lp_b_congr h hj])
theorem lp_d_step {m : Nat} {M : Nat → Nat → Int} {β : Nat → Nat} {r c : Nat} (hr : r < m) : lp_d m M (lp_U β r c) = lp_R m M β r (M c) := by
  unfold lp_d lp_R
  rw [lp_b_step hr]
theorem lp_R_step_r {m : Nat} {M : Nat → Nat → Int} {β : Nat → Nat} {r c : Nat} (hr : r < m) (x : Nat → Int) : lp_R m M (lp_U β r c) r x = lp_R m M β r x := by
  unfold lp_R
  rw [lp_b_step hr, lp_U_U]
theorem lp_R_step {m : Nat} {M : Nat → Nat → Int} {β : Nat → Nat} {r c i : Nat} (hC : lp_C (lp_b m M β) (m + 1)) (hr : r < m) (hi : i < m + 1) (hir : i ≠ r) (x : Nat → Int) :
    lp_d m M β * lp_R m M (lp_U β r c) i x = lp_R m M β r (M c) * lp_R m M β i x - lp_R m M β i (M c) * lp_R m M β r x := by
  have h := lp_pivot hC (r := r) (by omega) hi hir (M c) x
  rw [← lp_b_step hr] at h
  have e : lp_E (lp_b m M (lp_U β r c)) (m + 1) (lp_L (m + 1)) = lp_R m M β r (M c) := lp_d_step hr
  rw [e] at h
  exact h
theorem lp_R_basic {m : Nat} {M : Nat → Nat → Int} {β : Nat → Nat} {i k : Nat} (hk : k < m) (hi : i < m + 1) (hik : i ≠ k) : lp_R m M β i (M (β k)) = 0 :=
  lp_E_dup' _ (m + 1) i k hik hi (by omega) (by rw [lp_U_same, lp_U_other (Ne.symm hik), lp_b_at hk]) _
theorem lp_R_self {m : Nat} {M : Nat → Nat → Int} {β : Nat → Nat} {k : Nat} (hk : k < m) : lp_R m M β k (M (β k)) = lp_d m M β := by
  unfold lp_R lp_d
  have h := lp_U_self (lp_b m M β) k
  rw [lp_b_at hk] at h
  rw [h]
theorem lp_inj {m : Nat} {M : Nat → Nat → Int} {β : Nat → Nat} (hd : lp_d m M β ≠ 0) {i j : Nat} (hi : i < m) (hj : j < m) (h : β i = β j) : i = j := by
  apply Classical.byContradiction
  intro hij
  exact hd (lp_E_dup' _ (m + 1) i j hij (by omega) (by omega) (by rw [lp_b_at hi, lp_b_at hj, h]) _)
/-- a basis that is allowed -/
noncomputable def lp_G (m : Nat) (M : Nat → Nat → Int) (h : Nat → Int) (β : Nat → Nat) : Prop := lp_C (lp_b m M β) (m + 1) ∧ 0 < lp_d m M β ∧ ∀ i, i < m → 0 ≤ lp_R m M β i h
/-- row r and label c as Bland's rule takes them -/
noncomputable def lp_T (m : Nat) (M : Nat → Nat → Int) (h : Nat → Int) (Lab : Nat → Prop) (β : Nat → Nat) (r c : Nat) : Prop :=
  r < m ∧ Lab c ∧ lp_R m M β m (M c) < 0 ∧ (∀ l, Lab l → lp_R m M β m (M l) < 0 → c ≤ l) ∧ 0 < lp_R m M β r (M c) ∧
  ∀ i, i < m → 0 < lp_R m M β i (M c) → lp_R m M β r h * lp_R m M β i (M c) ≤ lp_R m M β i h * lp_R m M β r (M c) ∧ (lp_R m M β r h * lp_R m M β i (M c) = lp_R m M β i h * lp_R m M β r (M c) → β r ≤ β i)
theorem lp_nonneg_of {d x : Int} (hd : 0 < d) (h : 0 ≤ d * x) : 0 ≤ x := by
  apply Classical.byContradiction
  intro hx
  have := Int.mul_neg_of_pos_of_neg hd (show x < 0 by omega)
  omega
theorem lp_G_step {m : Nat} {M : Nat → Nat → Int} {h : Nat → Int} {Lab : Nat → Prop} {β : Nat → Nat} {r c : Nat} (hG : lp_G m M h β) (hT : lp_T m M h Lab β r c) : lp_G m M h (lp_U β r c) := by
  obtain ⟨hC, hd, hh⟩ := hG
  obtain ⟨hr, -, -, -, hp, hq⟩ := hT
  refine ⟨?_, ?_, ?_⟩
  · rw [lp_b_step hr]
    exact lp_C_step hC (by omega) (M c) (by unfold lp_d at hd; omega)
  · rw [lp_d_step hr]
    exact hp
  · intro i hi
    by_cases e : i = r
    · subst e
      rw [lp_R_step_r hr]
      exact hh i hi
    · have hs := lp_R_step (c := c) hC hr (show i < m + 1 by omega) e h
      refine lp_nonneg_of hd ?_
      rw [hs]
      by_cases hpos : 0 < lp_R m M β i (M c)
      · have := (hq i hi hpos).1
        have e1 : lp_R m M β r (M c) * lp_R m M β i h = lp_R m M β i h * lp_R m M β r (M c) := Int.mul_comm _ _
        have e2 : lp_R m M β i (M c) * lp_R m M β r h = lp_R m M β r h * lp_R m M β i (M c) := Int.mul_comm _ _
        omega
      · have h1 : 0 ≤ lp_R m M β r (M c) * lp_R m M β i h := Int.mul_nonneg (by omega) (hh i hi)
        have h2 : 0 ≤ (- lp_R m M β i (M c)) * lp_R m M β r h := Int.mul_nonneg (by omega) (hh r hr)
        rw [Int.neg_mul] at h2
        omega
theorem lp_frac {a b x y u v : Int} (hy : 0 < y) (hb : 0 < b) (hv : 0 < v) (h1 : a * y ≤ x * b) (h2 : x * v ≤ u * y) : a * v ≤ u * b := by
  have k1 := Int.mul_le_mul_of_nonneg_right h1 (show 0 ≤ v by omega)
  have k2 := Int.mul_le_mul_of_nonneg_right h2 (show 0 ≤ b by omega)
  have e1 : a * y * v = y * (a * v) := by grind
  have e2 : x * b * v = x * v * b := by grind
  have e3 : u * y * b = y * (u * b) := by grind
  exact Int.le_of_mul_le_mul_left (by omega) hy
theorem lp_frac_lt {a b x y u v : Int} (hy : 0 < y) (hb : 0 < b) (hv : 0 < v) (h1 : a * y ≤ x * b) (h2 : x * v < u * y) : a * v < u * b := by
  have k1 := Int.mul_le_mul_of_nonneg_right h1 (show 0 ≤ v by omega)
  have k2 := Int.mul_lt_mul_of_pos_right h2 hb
  have e1 : a * y * v = y * (a * v) := by grind
  have e2 : x * b * v = x * v * b := by grind
  have e3 : u * y * b = y * (u * b) := by grind
  exact Int.lt_of_mul_lt_mul_left (by omega) (by omega : 0 ≤ y)
theorem lp_run {P : Nat → Prop} {s t : Nat} (h : ∀ u, s ≤ u → u < t → P u → P (u + 1)) {i j : Nat} (hi : s ≤ i) (hij : i ≤ j) (hj : j ≤ t) (hp : P i) : P j := by
  induction j with
  | zero =>
    have : i = 0 := by omega
    subst this
    exact hp
  | succ j ih =>
    by_cases e : i = j + 1
    · subst e
      exact hp
    · exact h j (by omega) (by omega) (ih (by omega) (by omega))
theorem lp_max (f : Nat → Nat) (s t : Nat) (hst : s < t) : ∃ u, s ≤ u ∧ u < t ∧ ∀ v, s ≤ v → v < t → f v ≤ f u := by
  induction t with
  | zero => omega
  | succ t ih =>
    by_cases e : s = t
    · subst e
      exact ⟨s, by omega, by omega, fun v h1 h2 => by rw [show v = s by omega]; exact Nat.le_refl _⟩
    · obtain ⟨u, h1, h2, h3⟩ := ih (by omega)
      by_cases g : f u ≤ f t
      · exact ⟨t, by omega, by omega, fun v k1 k2 => by
          by_cases ev : v = t
          · subst ev
            exact Nat.le_refl _
          · exact Nat.le_trans (h3 v k1 (by omega)) g⟩
      · exact ⟨u, h1, by omega, fun v k1 k2 => by
          by_cases ev : v = t
          · subst ev
            omega
          · exact h3 v k1 (by omega)⟩
theorem lp_nocycle {m : Nat} {M : Nat → Nat → Int} {h : Nat → Int} {Lab : Nat → Prop} (β : Nat → Nat → Nat) (rr cc : Nat → Nat) (hG : ∀ u, lp_G m M h (β u)) (hT : ∀ u, lp_T m M h Lab (β u) (rr u) (cc u))
    (hs : ∀ u, β (u + 1) = lp_U (β u) (rr u) (cc u)) (s t : Nat) (hst : s < t) (heq : ∀ k, k < m → β s k = β t k) : False := by
  have hd : ∀ u, 0 < lp_d m M (β u) := fun u => (hG u).2.1
  have hr : ∀ u, rr u < m := fun u => (hT u).1
  have hp : ∀ u, lp_d m M (β (u + 1)) = lp_R m M (β u) (rr u) (M (cc u)) := fun u => by rw [hs u, lp_d_step (hr u)]
  have hz : ∀ u, lp_d m M (β u) * lp_R m M (β (u + 1)) m h = lp_d m M (β (u + 1)) * lp_R m M (β u) m h - lp_R m M (β u) m (M (cc u)) * lp_R m M (β u) (rr u) h := fun u => by
    rw [hp u, hs u]
    exact lp_R_step (hG u).1 (hr u) (by omega) (by have := hr u; omega) h
  have hle1 : ∀ u, lp_R m M (β u) m h * lp_d m M (β (u + 1)) ≤ lp_R m M (β (u + 1)) m h * lp_d m M (β u) := fun u => by
    have h1 : 0 ≤ (- lp_R m M (β u) m (M (cc u))) * lp_R m M (β u) (rr u) h := Int.mul_nonneg (by have := (hT u).2.2.1; omega) ((hG u).2.2 _ (hr u))
    rw [Int.neg_mul] at h1
    have h2 := hz u
    have e1 := Int.mul_comm (lp_R m M (β u) m h) (lp_d m M (β (u + 1)))
    have e2 := Int.mul_comm (lp_R m M (β (u + 1)) m h) (lp_d m M (β u))
    omega
  have hle : ∀ i j, i ≤ j → lp_R m M (β i) m h * lp_d m M (β j) ≤ lp_R m M (β j) m h * lp_d m M (β i) := by
    intro i j hij
    induction j with
    | zero =>
      have : i = 0 := by omega
      subst this
      exact Int.le_refl _
    | succ j ih =>
      by_cases e : i = j + 1
      · subst e
        exact Int.le_refl _
      · exact lp_frac (hd j) (hd i) (hd (j + 1)) (ih (by omega)) (hle1 j)
  have dst : lp_d m M (β s) = lp_d m M (β t) := lp_d_congr heq
  have zst : lp_R m M (β s) m h = lp_R m M (β t) m h := lp_R_congr heq m h
  -- every step of the round moves nothing
  have hdeg : ∀ u, s ≤ u → u < t → lp_R m M (β u) (rr u) h = 0 := by
    intro u h1 h2
    apply Classical.byContradiction
    intro hne
    have hpos : 0 < lp_R m M (β u) (rr u) h := by have := (hG u).2.2 _ (hr u); omega
    have h3 : 0 < (- lp_R m M (β u) m (M (cc u))) * lp_R m M (β u) (rr u) h := Int.mul_pos (by have := (hT u).2.2.1; omega) hpos
    rw [Int.neg_mul] at h3
    have h4 : lp_R m M (β u) m h * lp_d m M (β (u + 1)) < lp_R m M (β (u + 1)) m h * lp_d m M (β u) := by
      have h2 := hz u
      have e1 := Int.mul_comm (lp_R m M (β u) m h) (lp_d m M (β (u + 1)))
      have e2 := Int.mul_comm (lp_R m M (β (u + 1)) m h) (lp_d m M (β u))
      omega
    have h5 := lp_frac_lt (hd u) (hd s) (hd (u + 1)) (hle s u h1) h4
    have h6 := hle (u + 1) t (by omega)
    rw [← dst, ← zst] at h6
    omega
  have hZ : ∀ l u, s ≤ u → u < t → ((∀ k, k < m → β u k = l → lp_R m M (β u) k h = 0) ↔ (∀ k, k < m → β (u + 1) k = l → lp_R m M (β (u + 1)) k h = 0)) := by
    intro l u h1 h2
    have h0 := hdeg u h1 h2
    have hstep : ∀ k, k < m → k ≠ rr u → lp_d m M (β u) * lp_R m M (β (u + 1)) k h = lp_d m M (β (u + 1)) * lp_R m M (β u) k h := by
      intro k hk hkr
      have := lp_R_step (c := cc u) (hG u).1 (hr u) (show k < m + 1 by omega) hkr h
      rw [h0, ← hs u, ← hp u] at this
      omega
    constructor
    · intro hz k hk hkl
      by_cases e : k = rr u
      · subst e
        rw [hs u, lp_R_step_r (hr u)]
        exact h0
      · have hb : β u k = l := by rw [hs u, lp_U_other e] at hkl; exact hkl
        have h3 := hstep k hk e
        rw [hz k hk hb, Int.mul_zero] at h3
        rcases Int.mul_eq_zero.mp h3 with h4 | h4
        · have := hd u; omega
        · exact h4
    · intro hz k hk hkl
      by_cases e : k = rr u
      · subst e
        exact h0
      · have hb : β (u + 1) k = l := by rw [hs u, lp_U_other e]; exact hkl
        have h3 := hstep k hk e
        rw [hz k hk hb, Int.mul_zero] at h3
        rcases Int.mul_eq_zero.mp h3.symm with h4 | h4
        · have := hd (u + 1); omega
        · exact h4
  have hZs : ∀ l u, s ≤ u → u ≤ t → ((∀ k, k < m → β u k = l → lp_R m M (β u) k h = 0) ↔ (∀ k, k < m → β s k = l → lp_R m M (β s) k h = 0)) := by
    intro l u h1 h2
    exact lp_run (P := fun u => ((∀ k, k < m → β u k = l → lp_R m M (β u) k h = 0) ↔ (∀ k, k < m → β s k = l → lp_R m M (β s) k h = 0))) (fun v k1 k2 hv => (hZ l v k1 k2).symm.trans hv) (Nat.le_refl s) h1 h2 Iff.rfl
  have hnb : ∀ u, ∀ k, k < m → β u k ≠ cc u := fun u k hk e => by
    have h1 := (hT u).2.2.1
    rw [← e, lp_R_basic hk (by omega) (by omega)] at h1
    omega
  obtain ⟨u2, hs2, ht2, hmax⟩ := lp_max cc s t hst
  -- the greatest label that comes in goes out somewhere
  have hout : ∃ u1, s ≤ u1 ∧ u1 < t ∧ β u1 (rr u1) = cc u2 := by
    apply Classical.byContradiction
    intro hno
    have hstay : ∀ u, s ≤ u → u < t → (∃ k, k < m ∧ β u k = cc u2) → (∃ k, k < m ∧ β (u + 1) k = cc u2) := by
      intro u h1 h2 ⟨k, hk, hkl⟩
      have hkr : k ≠ rr u := fun e => hno ⟨u, h1, h2, by rw [← e]; exact hkl⟩
      exact ⟨k, hk, by rw [hs u, lp_U_other hkr]; exact hkl⟩
    have hb1 : ∃ k, k < m ∧ β (u2 + 1) k = cc u2 := ⟨rr u2, hr u2, by rw [hs u2, lp_U_same]⟩
    obtain ⟨k, hk, hkl⟩ := lp_run (P := fun u => ∃ k, k < m ∧ β u k = cc u2) hstay (by omega : s ≤ u2 + 1) (by omega) (Nat.le_refl t) hb1
    have hb2 : ∃ k, k < m ∧ β s k = cc u2 := ⟨k, hk, by rw [heq k hk]; exact hkl⟩
    obtain ⟨k', hk', hkl'⟩ := lp_run (P := fun u => ∃ k, k < m ∧ β u k = cc u2) hstay (Nat.le_refl s) hs2 (by omega) hb2
    exact hnb u2 k' hk' hkl'
  obtain ⟨u1, hs1, ht1, hq1⟩ := hout
  obtain ⟨-, hLe, hze, -, hpe, hratio⟩ := hT u1
  obtain ⟨-, -, hzq, hmin, -, -⟩ := hT u2
  have hsmall : ∀ l, Lab l → l < cc u2 → 0 ≤ lp_R m M (β u2) m (M l) := by
    intro l hl hlt
    apply Classical.byContradiction
    intro hneg
    have := hmin l hl (by omega)
    omega
  have he : cc u1 < cc u2 := by
    have h1 := hmax u1 hs1 ht1
    have h2 : cc u1 ≠ cc u2 := fun e => hnb u1 (rr u1) (hr u1) (by rw [e]; exact hq1)
    omega
  have hC := lp_C_use (c := lp_b m M (β u2)) (i := m) (hG u1).1 (by omega) (M (cc u1))
  have hgoal : lp_E (lp_U (lp_b m M (β u2)) m (lp_b m M (β u1) m)) (m + 1) (lp_L (m + 1)) = lp_d m M (β u2) := by
    have e := lp_U_self (lp_b m M (β u2)) m
    rw [lp_b_goal] at e ⊢
    rw [e]
    rfl
  have hsum : lp_S m (fun k => lp_R m M (β u1) k (M (cc u1)) * lp_R m M (β u2) m (M (β u1 k))) = lp_d m M (β u1) * lp_R m M (β u2) m (M (cc u1)) - lp_R m M (β u1) m (M (cc u1)) * lp_d m M (β u2) := by
    simp only [lp_S] at hC
    rw [hgoal] at hC
    have e : lp_S m (fun k => lp_E (lp_U (lp_b m M (β u1)) k (M (cc u1))) (m + 1) (lp_L (m + 1)) * lp_E (lp_U (lp_b m M (β u2)) m (lp_b m M (β u1) k)) (m + 1) (lp_L (m + 1))) = lp_S m (fun k => lp_R m M (β u1) k (M (cc u1)) * lp_R m M (β u2) m (M (β u1 k))) :=
      lp_S_congr (fun k hk => by rw [lp_b_at hk]; rfl)
    rw [e] at hC
    unfold lp_R lp_d at hC ⊢
    omega
  have hpos : 0 < lp_S m (fun k => lp_R m M (β u1) k (M (cc u1)) * lp_R m M (β u2) m (M (β u1 k))) := by
    rw [hsum]
    have h1 : 0 ≤ lp_d m M (β u1) * lp_R m M (β u2) m (M (cc u1)) := Int.mul_nonneg (by have := hd u1; omega) (hsmall _ hLe he)
    have h2 : 0 < (- lp_R m M (β u1) m (M (cc u1))) * lp_d m M (β u2) := Int.mul_pos (by omega) (hd u2)
    rw [Int.neg_mul] at h2
    omega
  obtain ⟨k, hk, hkpos⟩ := lp_S_pos hpos
  have hkr : k ≠ rr u1 := by
    intro e
    subst e
    rw [hq1] at hkpos
    have := Int.mul_neg_of_pos_of_neg hpe hzq
    omega
  have hkn : ∀ j, j < m → β u2 j ≠ β u1 k := by
    intro j hj e
    rw [← e, lp_R_basic hj (by omega) (by omega), Int.mul_zero] at hkpos
    omega
  have hkq : β u1 k ≠ cc u2 := fun e => hkr (lp_inj (m := m) (M := M) (β := β u1) (by have := hd u1; omega) hk (hr u1) (by rw [e, hq1]))
  have hin : ∃ u, s ≤ u ∧ u < t ∧ cc u = β u1 k := by
    apply Classical.byContradiction
    intro hno
    have hstay : ∀ u, s ≤ u → u < t → (∀ j, j < m → β u j ≠ β u1 k) → (∀ j, j < m → β (u + 1) j ≠ β u1 k) := by
      intro u h1 h2 hu j hj e
      rw [hs u] at e
      by_cases ej : j = rr u
      · subst ej
        rw [lp_U_same] at e
        exact hno ⟨u, h1, h2, e⟩
      · rw [lp_U_other ej] at e
        exact hu j hj e
    have h1 := lp_run (P := fun u => ∀ j, j < m → β u j ≠ β u1 k) hstay hs2 (Nat.le_of_lt ht2) (Nat.le_refl t) hkn
    have h2 : ∀ j, j < m → β s j ≠ β u1 k := fun j hj => by rw [heq j hj]; exact h1 j hj
    have h3 := lp_run (P := fun u => ∀ j, j < m → β u j ≠ β u1 k) hstay (Nat.le_refl s) hs1 (by omega) h2
    exact h3 k hk rfl
  obtain ⟨u3, hs3, ht3, hc3⟩ := hin
  have hLk : Lab (β u1 k) := by rw [← hc3]; exact (hT u3).2.1
  have hlt : β u1 k < cc u2 := by
    have := hmax u3 hs3 ht3
    omega
  have hge := hsmall _ hLk hlt
  have hkp : 0 < lp_R m M (β u1) k (M (cc u1)) := by
    apply Classical.byContradiction
    intro hneg
    have : 0 ≤ (- lp_R m M (β u1) k (M (cc u1))) * lp_R m M (β u2) m (M (β u1 k)) := Int.mul_nonneg (by omega) hge
    rw [Int.neg_mul] at this
    omega
  have hz1 : lp_R m M (β u1) k h = 0 := by
    have h1 : ∀ j, j < m → β u2 j = β u1 k → lp_R m M (β u2) j h = 0 := fun j hj e => absurd e (hkn j hj)
    have h2 := (hZs (β u1 k) u2 hs2 (by omega)).mp h1
    exact (hZs (β u1 k) u1 hs1 (by omega)).mpr h2 k hk rfl
  have hfin := (hratio k hk hkp).2 (by rw [hz1, hdeg u1 hs1 ht1]; omega)
  rw [hq1] at hfin
  omega
/-- pigeons -/
theorem lp_holes (N : Nat) (f : Nat → Nat) (h : ∀ u, f u < N) : ∃ s t, s < t ∧ f s = f t := by
  induction N generalizing f with
  | zero => exact absurd (h 0) (by omega)
  | succ N ih =>
    by_cases e : ∃ u, f u = N
    · obtain ⟨u, hu⟩ := e
      by_cases e2 : ∃ v, u < v ∧ f v = N
      · obtain ⟨v, hv, hfv⟩ := e2
        exact ⟨u, v, hv, by omega⟩
      · obtain ⟨s, t, hst, hf⟩ := ih (fun v => f (u + 1 + v)) (fun v => by
          have h1 := h (u + 1 + v)
          have h2 : f (u + 1 + v) ≠ N := fun e3 => e2 ⟨u + 1 + v, by omega, e3⟩
          omega)
        exact ⟨u + 1 + s, u + 1 + t, by omega, hf⟩
    · exact ih f (fun u => by
        have h1 := h u
        have h2 : f u ≠ N := fun e3 => e ⟨u, e3⟩
        omega)
noncomputable def lp_code (K : Nat) : Nat → (Nat → Nat) → Nat
  | 0, _ => 0
  | n + 1, f => K * lp_code K n f + f n
theorem lp_code_lt (K n : Nat) (f : Nat → Nat) (h : ∀ k, k < n → f k < K) : lp_code K n f < K ^ n := by
  induction n with
  | zero => simp [lp_code]
  | succ n ih =>
    simp only [lp_code]
    have h1 := ih (fun k hk => h k (by omega))
    have h2 := h n (by omega)
    have h3 : K * (lp_code K n f + 1) ≤ K * K ^ n := Nat.mul_le_mul_left K h1
    rw [Nat.pow_succ, Nat.mul_comm (K ^ n) K]
    rw [Nat.mul_add] at h3
    omega
theorem lp_code_inj (K n : Nat) (f g : Nat → Nat) (hf : ∀ k, k < n → f k < K) (hg : ∀ k, k < n → g k < K) (h : lp_code K n f = lp_code K n g) : ∀ k, k < n → f k = g k := by
  induction n with
  | zero => intro k hk; omega
  | succ n ih =>
    simp only [lp_code] at h
    have h1 : f n = g n := by
      have e1 : (K * lp_code K n f + f n) % K = f n := by rw [Nat.mul_add_mod, Nat.mod_eq_of_lt (hf n (by omega))]
      have e2 : (K * lp_code K n g + g n) % K = g n := by rw [Nat.mul_add_mod, Nat.mod_eq_of_lt (hg n (by omega))]
      rw [← e1, ← e2, h]
    have h2 : lp_code K n f = lp_code K n g := by
      have : K * lp_code K n f = K * lp_code K n g := by omega
      exact Nat.eq_of_mul_eq_mul_left (by have := hf n (by omega); omega) this
    intro k hk
    by_cases e : k = n
    · subst e
      exact h1
    · exact ih (fun k hk => hf k (by omega)) (fun k hk => hg k (by omega)) h2 k (by omega)
theorem lp_seq {X : Type} {R : X → X → Prop} (h : ∀ x, ∃ y, R y x) (x0 : X) : ∃ f : Nat → X, f 0 = x0 ∧ ∀ n, R (f (n + 1)) (f n) :=
  ⟨fun n => Nat.rec x0 (fun _ x => (h x).choose) n, rfl, fun n => (h _).choose_spec⟩
/-- what Bland's rule goes through ends -/
theorem lp_acc {m K : Nat} {M : Nat → Nat → Int} {h : Nat → Int} {Lab : Nat → Prop} (hK : ∀ l, Lab l → l < K) {β : Nat → Nat} (hβ : ∀ k, k < m → β k < K) (hG : lp_G m M h β) :
    Acc (fun β' β => ∃ r c, lp_T m M h Lab β r c ∧ β' = lp_U β r c) β := by
  apply Classical.byContradiction
  intro hno
  have step : ∀ x : {b : Nat → Nat // ¬ Acc (fun β' β => ∃ r c, lp_T m M h Lab β r c ∧ β' = lp_U β r c) b}, ∃ y : {b : Nat → Nat // ¬ Acc (fun β' β => ∃ r c, lp_T m M h Lab β r c ∧ β' = lp_U β r c) b}, ∃ r c, lp_T m M h Lab x.1 r c ∧ y.1 = lp_U x.1 r c := by
    intro x
    apply Classical.byContradiction
    intro hx
    refine x.2 (Acc.intro x.1 (fun y hy => ?_))
    apply Classical.byContradiction
    intro hyn
    exact hx ⟨⟨y, hyn⟩, hy⟩
  obtain ⟨f, hf0, hf⟩ := lp_seq step ⟨β, hno⟩
  have hrc : ∀ u, ∃ rc : Nat × Nat, lp_T m M h Lab (f u).1 rc.1 rc.2 ∧ (f (u + 1)).1 = lp_U (f u).1 rc.1 rc.2 := fun u => by
    obtain ⟨r, c, h1, h2⟩ := hf u
    exact ⟨(r, c), h1, h2⟩
  have hGu : ∀ u, lp_G m M h (f u).1 := by
    intro u
    induction u with
    | zero => rw [hf0]; exact hG
    | succ u ih =>
      obtain ⟨rc, h1, h2⟩ := hrc u
      rw [h2]
      exact lp_G_step ih h1
  have hB : ∀ u k, k < m → (f u).1 k < K := by
    intro u
    induction u with
    | zero => rw [hf0]; exact hβ
    | succ u ih =>
      obtain ⟨rc, h1, h2⟩ := hrc u
      intro k hk
      rw [h2]
      simp only [lp_U]
      split
      · exact hK _ h1.2.1
      · exact ih k hk
  obtain ⟨s, t, hst, hcode⟩ := lp_holes (K ^ m) (fun u => lp_code K m (f u).1) (fun u => lp_code_lt K m _ (hB u))
  exact lp_nocycle (fun u => (f u).1) (fun u => (hrc u).choose.1) (fun u => (hrc u).choose.2) hGu (fun u => (hrc u).choose_spec.1) (fun u => (hrc u).choose_spec.2) s t hst (lp_code_inj K m _ _ (hB s) (hB t) hcode)
/-- a column that is somewhere above 0 has a row above 0 -/
theorem lp_row {m : Nat} {M : Nat → Nat → Int} {h : Nat → Int} {β : Nat → Nat} (hG : lp_G m M h β) (hM : ∀ k t, k < m → t < m → 0 ≤ M (β k) t) {x : Nat → Int} {t : Nat} (ht : t < m) (hx : 0 < x t) : ∃ i, i < m ∧ 0 < lp_R m M β i x := by
  have h1 := hG.1 x t (by omega)
  have h2 : 0 < lp_d m M β * x t := Int.mul_pos hG.2.1 hx
  unfold lp_d at h2
  rw [h1] at h2
  simp only [lp_S] at h2
  rw [lp_b_goal, lp_e_other (by omega), Int.mul_zero, Int.add_zero] at h2
  obtain ⟨k, hk, hpos⟩ := lp_S_pos h2
  refine ⟨k, hk, ?_⟩
  rw [lp_b_at hk] at hpos
  apply Classical.byContradiction
  intro hneg
  have : 0 ≤ (- lp_R m M β k x) * M (β k) t := Int.mul_nonneg (by omega) (hM k t hk ht)
  rw [Int.neg_mul] at this
  unfold lp_R at this
  omega
