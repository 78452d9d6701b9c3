/-- the expansion of a vector beside F over the coordinates -/
noncomputable def lp_X (v : Nat → Int) (F : List Nat → Int) : List Nat → Int
  | [] => 0
  | s :: S => v s * F S - lp_X v (fun T => F (s :: T)) S
theorem lp_X_zeroF (v : Nat → Int) (S : List Nat) : lp_X v (fun _ => 0) S = 0 := by
  induction S with
  | nil => rfl
  | cons s S ih => simp only [lp_X, ih]; omega
theorem lp_X_linF (v : Nat → Int) (a c : Int) (F G : List Nat → Int) (S : List Nat) : lp_X v (fun T => a * F T + c * G T) S = a * lp_X v F S + c * lp_X v G S := by
  induction S generalizing F G with
  | nil => simp [lp_X]
  | cons s S ih =>
    simp only [lp_X]
    rw [ih (fun T => F (s :: T)) (fun T => G (s :: T))]
    grind
theorem lp_X_linv (v w : Nat → Int) (a c : Int) (F : List Nat → Int) (S : List Nat) : lp_X (fun t => a * v t + c * w t) F S = a * lp_X v F S + c * lp_X w F S := by
  induction S generalizing F with
  | nil => simp [lp_X]
  | cons s S ih =>
    simp only [lp_X]
    rw [ih]
    grind
theorem lp_X_negF (v : Nat → Int) (F : List Nat → Int) (S : List Nat) : lp_X v (fun T => - F T) S = - lp_X v F S := by
  have h := lp_X_linF v (-1) 0 F F S
  have e : (fun T => (-1) * F T + 0 * F T) = (fun T => - F T) := by funext T; omega
  rw [e] at h
  omega
theorem lp_X_self (v : Nat → Int) (F : List Nat → Int) (S : List Nat) : lp_X v (lp_X v F) S = 0 := by
  induction S generalizing F with
  | nil => rfl
  | cons s S ih =>
    have e : (fun T => lp_X v F (s :: T)) = (fun T => v s * F T + (-1) * lp_X v (fun U => F (s :: U)) T) := by
      funext T
      simp only [lp_X]
      omega
    rw [lp_X, e, lp_X_linF v (v s) (-1) F (lp_X v (fun U => F (s :: U))) S, ih (fun U => F (s :: U))]
    omega
theorem lp_X_swap (v w : Nat → Int) (F : List Nat → Int) (S : List Nat) : lp_X v (lp_X w F) S = - lp_X w (lp_X v F) S := by
  have h := lp_X_self (fun t => 1 * v t + 1 * w t) F S
  have e : lp_X (fun t => 1 * v t + 1 * w t) F = (fun T => 1 * lp_X v F T + 1 * lp_X w F T) := by
    funext T
    exact lp_X_linv v w 1 1 F T
  rw [e, lp_X_linv v w 1 1, lp_X_linF v 1 1, lp_X_linF w 1 1, lp_X_self, lp_X_self] at h
  omega
theorem lp_X_congr {v w : Nat → Int} {F G : List Nat → Int} {S : List Nat} (hv : ∀ t ∈ S, v t = w t) (hF : ∀ T, List.Sublist T S → F T = G T) : lp_X v F S = lp_X w G S := by
  induction S generalizing F G with
  | nil => rfl
  | cons s S ih =>
    simp only [lp_X]
    rw [hv s List.mem_cons_self, hF S (List.sublist_cons_self s S), ih (F := fun T => F (s :: T)) (G := fun T => G (s :: T)) (fun t ht => hv t (List.mem_cons_of_mem _ ht)) (fun T hT => hF (s :: T) (List.Sublist.cons_cons s hT))]
/-- the determinant of b (n-1), .., b 0 over the coordinates -/
noncomputable def lp_E (b : Nat → Nat → Int) : Nat → List Nat → Int
  | 0 => fun S => if S = [] then 1 else 0
  | n + 1 => lp_X (b n) (lp_E b n)
/-- a row with one place changed -/
noncomputable def lp_U {α : Type} (b : Nat → α) (k : Nat) (x : α) : Nat → α := fun i => if i = k then x else b i
theorem lp_U_same {α : Type} (b : Nat → α) (k : Nat) (x : α) : lp_U b k x k = x := if_pos rfl
theorem lp_U_other {α : Type} {b : Nat → α} {k i : Nat} {x : α} (h : i ≠ k) : lp_U b k x i = b i := if_neg h
theorem lp_U_U {α : Type} (b : Nat → α) (k : Nat) (x y : α) : lp_U (lp_U b k x) k y = lp_U b k y := by
  funext i
  simp only [lp_U]
  split <;> rfl
theorem lp_U_comm {α : Type} (b : Nat → α) {k j : Nat} (h : k ≠ j) (x y : α) : lp_U (lp_U b k x) j y = lp_U (lp_U b j y) k x := by
  funext i
  simp only [lp_U]
  split <;> split <;> first | rfl | omega
theorem lp_U_self {α : Type} (b : Nat → α) (k : Nat) : lp_U b k (b k) = b := by
  funext i
  simp only [lp_U]
  split
  · next h => rw [h]
  · rfl
theorem lp_E_congr {b c : Nat → Nat → Int} {n : Nat} {S : List Nat} (h : ∀ i, i < n → ∀ t ∈ S, b i t = c i t) : lp_E b n S = lp_E c n S := by
  induction n generalizing S with
  | zero => rfl
  | succ n ih =>
    exact lp_X_congr (h n (Nat.lt_succ_self n)) (fun T hT => ih (fun i hi t ht => h i (by omega) t (hT.mem ht)))
theorem lp_E_lin (b : Nat → Nat → Int) (n k : Nat) (hk : k < n) (a c : Int) (x y : Nat → Int) (S : List Nat) : lp_E (lp_U b k (fun t => a * x t + c * y t)) n S = a * lp_E (lp_U b k x) n S + c * lp_E (lp_U b k y) n S := by
  induction n generalizing S with
  | zero => omega
  | succ n ih =>
    by_cases e : k = n
    · subst e
      have h1 : ∀ z : Nat → Int, lp_E (lp_U b k z) k = lp_E b k := fun z => by
        funext T
        exact lp_E_congr (fun i hi t _ => by rw [lp_U_other (by omega)])
      simp only [lp_E, lp_U_same, h1]
      exact lp_X_linv x y a c (lp_E b k) S
    · have h2 : ∀ z : Nat → Int, lp_U b k z n = b n := fun z => lp_U_other (by omega)
      have h3 : lp_E (lp_U b k (fun t => a * x t + c * y t)) n = (fun T => a * lp_E (lp_U b k x) n T + c * lp_E (lp_U b k y) n T) := by
        funext T
        exact ih (by omega) T
      simp only [lp_E, h2, h3]
      exact lp_X_linF (b n) a c _ _ S
theorem lp_E_X0 (b : Nat → Nat → Int) (n i : Nat) (hi : i < n) (S : List Nat) : lp_X (b i) (lp_E b n) S = 0 := by
  induction n generalizing S with
  | zero => omega
  | succ n ih =>
    by_cases e : i = n
    · subst e
      exact lp_X_self (b i) (lp_E b i) S
    · have h : lp_X (b i) (lp_E b n) = (fun _ => 0) := by
        funext T
        exact ih (by omega) T
      simp only [lp_E]
      rw [lp_X_swap, h, lp_X_zeroF]
      rfl
theorem lp_E_dup (b : Nat → Nat → Int) (n i j : Nat) (hij : i < j) (hj : j < n) (h : b i = b j) (S : List Nat) : lp_E b n S = 0 := by
  induction n generalizing S with
  | zero => omega
  | succ n ih =>
    simp only [lp_E]
    by_cases e : j = n
    · subst e
      rw [← h]
      exact lp_E_X0 b j i hij S
    · have h0 : lp_E b n = (fun _ => 0) := by
        funext T
        exact ih (by omega) T
      rw [h0, lp_X_zeroF]
theorem lp_E_dup' (b : Nat → Nat → Int) (n i j : Nat) (hij : i ≠ j) (hi : i < n) (hj : j < n) (h : b i = b j) (S : List Nat) : lp_E b n S = 0 := by
  by_cases e : i < j
  · exact lp_E_dup b n i j e hj h S
  · exact lp_E_dup b n j i (by omega) hi h.symm S
theorem lp_E_swap (b : Nat → Nat → Int) (n i j : Nat) (hij : i ≠ j) (hi : i < n) (hj : j < n) (x y : Nat → Int) (S : List Nat) : lp_E (lp_U (lp_U b i x) j y) n S = - lp_E (lp_U (lp_U b i y) j x) n S := by
  have dup : ∀ z : Nat → Int, lp_E (lp_U (lp_U b i z) j z) n S = 0 := fun z =>
    lp_E_dup' _ n i j hij hi hj (by rw [lp_U_other hij, lp_U_same, lp_U_same]) S
  have h := dup (fun t => 1 * x t + 1 * y t)
  rw [lp_E_lin _ n j hj 1 1 x y S, lp_U_comm b hij, lp_U_comm b hij, lp_E_lin _ n i hi 1 1 x y S, lp_E_lin _ n i hi 1 1 x y S, ← lp_U_comm b hij, ← lp_U_comm b hij, ← lp_U_comm b hij, ← lp_U_comm b hij, dup, dup] at h
  omega
/-- sums -/
noncomputable def lp_S : Nat → (Nat → Int) → Int
  | 0, _ => 0
  | n + 1, f => lp_S n f + f n
theorem lp_S_congr {n : Nat} {f g : Nat → Int} (h : ∀ i, i < n → f i = g i) : lp_S n f = lp_S n g := by
  induction n with
  | zero => rfl
  | succ n ih => simp only [lp_S]; rw [ih (fun i hi => h i (by omega)), h n (by omega)]
theorem lp_S_zero {n : Nat} {f : Nat → Int} (h : ∀ i, i < n → f i = 0) : lp_S n f = 0 := by
  induction n with
  | zero => rfl
  | succ n ih => simp only [lp_S]; rw [ih (fun i hi => h i (by omega)), h n (by omega)]; rfl
theorem lp_S_lin (n : Nat) (a c : Int) (f g : Nat → Int) : lp_S n (fun i => a * f i + c * g i) = a * lp_S n f + c * lp_S n g := by
  induction n with
  | zero => simp [lp_S]
  | succ n ih => simp only [lp_S]; rw [ih]; grind
theorem lp_S_add (n : Nat) (f g : Nat → Int) : lp_S n (fun i => f i + g i) = lp_S n f + lp_S n g := by
  induction n with
  | zero => simp [lp_S]
  | succ n ih => simp only [lp_S]; rw [ih]; omega
theorem lp_S_mul (n : Nat) (a : Int) (f : Nat → Int) : lp_S n (fun i => a * f i) = a * lp_S n f := by
  induction n with
  | zero => simp [lp_S]
  | succ n ih => simp only [lp_S]; rw [ih]; grind
theorem lp_S_one {n r : Nat} (hr : r < n) (f : Nat → Int) (h : ∀ i, i < n → i ≠ r → f i = 0) : lp_S n f = f r := by
  induction n with
  | zero => omega
  | succ n ih =>
    simp only [lp_S]
    by_cases e : r = n
    · subst e
      rw [lp_S_zero (fun i hi => h i (by omega) (by omega))]
      omega
    · rw [ih (by omega) (fun i hi hn => h i (by omega) hn), h n (by omega) (by omega)]
      omega
theorem lp_S_two {n r q : Nat} (hr : r < n) (hq : q < n) (hrq : r ≠ q) (f : Nat → Int) (h : ∀ i, i < n → i ≠ r → i ≠ q → f i = 0) : lp_S n f = f r + f q := by
  have e1 : lp_S n f = lp_S n (fun i => (if i = r then f r else 0) + (if i = r then 0 else f i)) := lp_S_congr (fun i _ => by
    by_cases hir : i = r
    · simp [hir]
    · simp [hir])
  rw [e1, lp_S_add, lp_S_one hr (fun i => if i = r then f r else 0) (fun i _ hi => if_neg hi), lp_S_one hq (fun i => if i = r then 0 else f i) (fun i hi hiq => by
    by_cases hir : i = r
    · simp [hir]
    · simp only [if_neg hir]; exact h i hi hir hiq)]
  simp [Ne.symm hrq]
theorem lp_S_pos {n : Nat} {f : Nat → Int} (h : 0 < lp_S n f) : ∃ k, k < n ∧ 0 < f k := by
  induction n with
  | zero => simp [lp_S] at h
  | succ n ih =>
    simp only [lp_S] at h
    by_cases e : 0 < f n
    · exact ⟨n, by omega, e⟩
    · obtain ⟨k, hk, hf⟩ := ih (by omega)
      exact ⟨k, by omega, hf⟩
theorem lp_S_nonpos {n : Nat} {f : Nat → Int} (h : ∀ k, k < n → f k ≤ 0) : lp_S n f ≤ 0 := by
  induction n with
  | zero => simp [lp_S]
  | succ n ih =>
    simp only [lp_S]
    have := ih (fun k hk => h k (by omega))
    have := h n (by omega)
    omega
theorem lp_E_sum (b : Nat → Nat → Int) (n i K : Nat) (hi : i < n) (c : Nat → Int) (y : Nat → Nat → Int) (S : List Nat) : lp_E (lp_U b i (fun t => lp_S K (fun k => c k * y k t))) n S = lp_S K (fun k => c k * lp_E (lp_U b i (y k)) n S) := by
  induction K with
  | zero =>
    have h := lp_E_lin b n i hi 0 0 (fun _ => 0) (fun _ => 0) S
    simp only [lp_S]
    have e : (fun t : Nat => (0 : Int) * (fun _ => 0) t + 0 * (fun _ => 0) t) = (fun _ => 0) := by funext t; rfl
    rw [e] at h
    rw [h]
    omega
  | succ K ih =>
    have h := lp_E_lin b n i hi 1 (c K) (fun t => lp_S K (fun k => c k * y k t)) (y K) S
    have e : (fun t => lp_S (K + 1) (fun k => c k * y k t)) = (fun t => 1 * (fun t => lp_S K (fun k => c k * y k t)) t + c K * y K t) := by
      funext t
      simp only [lp_S]
      omega
    rw [e, h, ih]
    simp only [lp_S]
    omega
