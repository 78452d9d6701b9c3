-- 18.b01
/-- the number that n digits make, the lowest first -/
noncomputable def cb_V (g : Nat → Int) : Nat → Int
  | 0 => 0
  | n + 1 => cb_V g n + g n % 4294967296 * 4294967296 ^ n
theorem cb_V_congr {g h : Nat → Int} {n : Nat} (e : ∀ i, i < n → g i % 4294967296 = h i % 4294967296) : cb_V g n = cb_V h n := by
  induction n with
  | zero => rfl
  | succ n ih => simp only [cb_V]; rw [ih (fun i hi => e i (by omega)), e n (by omega)]
theorem cb_p (n : Nat) : (0 : Int) < 4294967296 ^ n := Int.pow_pos (by decide)
theorem cb_V_range (g : Nat → Int) (n : Nat) : 0 ≤ cb_V g n ∧ cb_V g n < 4294967296 ^ n := by
  induction n with
  | zero => simp [cb_V]
  | succ n ih =>
    have hp := cb_p n
    have h3 : 0 ≤ g n % 4294967296 := by omega
    have h5 : 0 ≤ g n % 4294967296 * 4294967296 ^ n := Int.mul_nonneg h3 (by omega)
    have h6 : g n % 4294967296 * 4294967296 ^ n ≤ 4294967295 * 4294967296 ^ n := Int.mul_le_mul_of_nonneg_right (by omega) (by omega)
    simp only [cb_V, Int.pow_succ]
    omega
theorem cb_V_add (g : Nat → Int) (k n : Nat) : cb_V g (k + n) = cb_V g k + 4294967296 ^ k * cb_V (fun i => g (k + i)) n := by
  induction n with
  | zero => simp [cb_V]
  | succ n ih =>
    rw [← Nat.add_assoc, cb_V, ih]
    simp only [cb_V, Int.pow_add]
    rw [Int.mul_add, Int.add_assoc]
    congr 2
    rw [Int.mul_left_comm]
theorem cb_V_low (g : Nat → Int) (n : Nat) : cb_V g (n + 1) = g 0 % 4294967296 + 4294967296 * cb_V (fun i => g (i + 1)) n := by
  rw [Nat.add_comm n 1, cb_V_add]
  simp [cb_V, Nat.add_comm]
theorem cb_V_zero {g : Nat → Int} {n : Nat} (h : ∀ i, i < n → g i % 4294967296 = 0) : cb_V g n = 0 := by
  induction n with
  | zero => rfl
  | succ n ih => simp only [cb_V]; rw [ih (fun i hi => h i (by omega)), h n (by omega)]; simp
theorem cb_V_zero' {g : Nat → Int} {n : Nat} (h0 : cb_V g n = 0) : ∀ i, i < n → g i % 4294967296 = 0 := by
  induction n with
  | zero => intro i hi; omega
  | succ n ih =>
    have h1 := cb_V_range g n
    have hp := cb_p n
    simp only [cb_V] at h0
    have h5 : 0 ≤ g n % 4294967296 * 4294967296 ^ n := Int.mul_nonneg (by omega) (by omega)
    have h6 : g n % 4294967296 * 4294967296 ^ n = 0 := by omega
    have h7 : g n % 4294967296 = 0 := by
      rcases Int.mul_eq_zero.mp h6 with h8 | h8
      · exact h8
      · omega
    intro i hi
    by_cases hin : i = n
    · subst hin; exact h7
    · exact ih (by omega) i (by omega)
theorem cb_V_top {g : Nat → Int} {n : Nat} (h : ¬ g n % 4294967296 = 0) : 4294967296 ^ n ≤ cb_V g (n + 1) := by
  have h1 := cb_V_range g n
  have hp := cb_p n
  have h6 : 1 * 4294967296 ^ n ≤ g n % 4294967296 * 4294967296 ^ n := Int.mul_le_mul_of_nonneg_right (by omega) (by omega)
  simp only [cb_V]
  omega
theorem cb_pow_le {m n : Nat} (h : m ≤ n) : (4294967296 : Int) ^ m ≤ 4294967296 ^ n := by
  obtain ⟨k, rfl⟩ := Nat.exists_eq_add_of_le h
  rw [Int.pow_add]
  have h1 := cb_p m
  have h2 := cb_p k
  have : 4294967296 ^ m * 1 ≤ (4294967296 : Int) ^ m * 4294967296 ^ k := Int.mul_le_mul_of_nonneg_left (by omega) (by omega)
  omega
/-- the objects' shape: every Big has digits of its own, all in their range -/
noncomputable def cb_S (L : List Nat) (K : Nat → cw_K) (r : Nat → Nat → Nat) (A : Nat → Nat → Int) : Prop :=
  (∀ b, cw_O L K 0 b → cw_A L K 0 (r b 0) ∧ (2 ≤ cw_n K (r b 0) ∧ cw_n K (r b 0) ≤ 64) ∧ ∀ i, hz_rI (A (r b 0) i)) ∧ ∀ b c, cw_O L K 0 b → cw_O L K 0 c → r b 0 = r c 0 → b = c
/-- .. and its length and sign are such as they should be -/
noncomputable def cb_k (K : Nat → cw_K) (r : Nat → Nat → Nat) (z A : Nat → Nat → Int) (b : Nat) : Prop :=
  (0 ≤ z b 1 ∧ z b 1 ≤ (cw_n K (r b 0) : Int)) ∧ (z b 2 = 0 ∨ z b 2 = 1) ∧ (0 < z b 1 → ¬ A (r b 0) (z b 1 - 1).toNat = 0) ∧ (z b 1 = 0 → z b 2 = 0)
noncomputable def cb_all (L : List Nat) (K : Nat → cw_K) (r : Nat → Nat → Nat) (z A : Nat → Nat → Int) : Prop := cb_S L K r A ∧ ∀ b, cw_O L K 0 b → cb_k K r z A b
/-- the size; the value -/
noncomputable def cb_u (r : Nat → Nat → Nat) (z A : Nat → Nat → Int) (b : Nat) : Int := cb_V (A (r b 0)) (z b 1).toNat
noncomputable def cb_v (r : Nat → Nat → Nat) (z A : Nat → Nat → Int) (b : Nat) : Int := if z b 2 = 1 then - cb_u r z A b else cb_u r z A b
/-- only one Big may have changed -/
noncomputable def cb_Y (r : Nat → Nat → Nat) (b : Nat) (z A z' A' : Nat → Nat → Int) : Prop := (∀ a, a ≠ b → z' a = z a) ∧ ∀ a, a ≠ r b 0 → A' a = A a
theorem cb_Y_refl (r : Nat → Nat → Nat) (b : Nat) (z A : Nat → Nat → Int) : cb_Y r b z A z A := ⟨fun _ _ => rfl, fun _ _ => rfl⟩
theorem cb_Y_trans {r : Nat → Nat → Nat} {b : Nat} {z A z1 A1 z2 A2 : Nat → Nat → Int} (h1 : cb_Y r b z A z1 A1) (h2 : cb_Y r b z1 A1 z2 A2) : cb_Y r b z A z2 A2 := ⟨fun a h => (h2.1 a h).trans (h1.1 a h), fun a h => (h2.2 a h).trans (h1.2 a h)⟩
section CB
variable {L : List Nat} {K : Nat → cw_K} {r : Nat → Nat → Nat} {z A : Nat → Nat → Int}
theorem cw_s_same {α : Type} (z : Nat → Nat → α) (a k : Nat) (v : α) : cw_s z a k v a k = v := by unfold cw_s; rw [lp_U_same, lp_U_same]
theorem cw_s_k {α : Type} {z : Nat → Nat → α} {a x k j : Nat} {v : α} (h : j ≠ k) : cw_s z a k v x j = z x j := by
  unfold cw_s
  by_cases hx : x = a
  · subst hx; rw [lp_U_same, lp_U_other h]
  · rw [lp_U_other hx]
theorem cw_s_a {α : Type} {z : Nat → Nat → α} {a x k : Nat} {v : α} (h : x ≠ a) : cw_s z a k v x = z x := by unfold cw_s; rw [lp_U_other h]
theorem hz_s_a {a x : Nat} {i v : Int} (h : x ≠ a) : hz_s A a i v x = A x := by unfold hz_s; rw [lp_U_other h]
theorem hz_s_same (a : Nat) (i v : Int) : hz_s A a i v a i.toNat = v := by unfold hz_s hz_u; rw [lp_U_same, if_pos rfl]
theorem hz_s_i {a x j : Nat} {i v : Int} (h : j ≠ i.toNat) : hz_s A a i v x j = A x j := by
  unfold hz_s hz_u
  by_cases hx : x = a
  · subst hx; rw [lp_U_same, if_neg h]
  · rw [lp_U_other hx]
/-- a digit stored -/
theorem cb_S_put (h : cb_S L K r A) {b : Nat} (hO : cw_O L K 0 b) {i v : Int} (hv : hz_rI v) : cb_S L K r (hz_s A (r b 0) i v) := by
  refine ⟨fun c hc => ⟨(h.1 c hc).1, (h.1 c hc).2.1, fun j => ?_⟩, h.2⟩
  by_cases hj : j = i.toNat
  · subst hj
    by_cases hcb : r c 0 = r b 0
    · rw [hcb, hz_s_same]; exact hv
    · rw [hz_s_a hcb]; exact (h.1 c hc).2.2 _
  · rw [hz_s_i hj]; exact (h.1 c hc).2.2 _
theorem cb_S_keep (h : cb_S L K r A) {b : Nat} (hO : cw_O L K 0 b) {A' : Nat → Nat → Int} (h1 : ∀ a, a ≠ r b 0 → A' a = A a) (h2 : ∀ i, hz_rI (A' (r b 0) i)) : cb_S L K r A' := by
  refine ⟨fun c hc => ⟨(h.1 c hc).1, (h.1 c hc).2.1, fun j => ?_⟩, h.2⟩
  by_cases hcb : r c 0 = r b 0
  · rw [hcb]; exact h2 j
  · rw [h1 _ hcb]; exact (h.1 c hc).2.2 _
theorem cb_ne (h : cb_S L K r A) {b c : Nat} (hb : cw_O L K 0 b) (hc : cw_O L K 0 c) (hbc : c ≠ b) : r c 0 ≠ r b 0 := fun e => hbc (h.2 c b hc hb e)
theorem cb_k_other (h : cb_S L K r A) {b c : Nat} (hb : cw_O L K 0 b) (hc : cw_O L K 0 c) (hbc : c ≠ b) {z' A' : Nat → Nat → Int} (hY : cb_Y r b z A z' A') : (cb_k K r z A c → cb_k K r z' A' c) ∧ cb_u r z' A' c = cb_u r z A c ∧ cb_v r z' A' c = cb_v r z A c := by
  have e1 := hY.1 c hbc
  have e2 := hY.2 (r c 0) (cb_ne h hb hc hbc)
  unfold cb_v cb_u cb_k
  rw [e1, e2]
  exact ⟨id, rfl, rfl⟩
theorem cb_all_of (h : cb_all L K r z A) {b : Nat} (hO : cw_O L K 0 b) {z' A' : Nat → Nat → Int} (hY : cb_Y r b z A z' A') (hS : cb_S L K r A') (hk : cb_k K r z' A' b) : cb_all L K r z' A' := by
  refine ⟨hS, fun c hc => ?_⟩
  by_cases hcb : c = b
  · subst hcb; exact hk
  · exact (cb_k_other h.1 hO hc hcb hY).1 (h.2 c hc)
theorem cb_u_nn (r : Nat → Nat → Nat) (z A : Nat → Nat → Int) (b : Nat) : 0 ≤ cb_u r z A b := (cb_V_range _ _).1
/-- nothing there: 0 -/
theorem cb_u0 {b : Nat} (hk : cb_k K r z A b) (hS : cb_S L K r A) (hO : cw_O L K 0 b) : (z b 1 = 0 ↔ cb_u r z A b = 0) := by
  obtain ⟨⟨h1, h2⟩, h3, h4, h5⟩ := hk
  constructor
  · intro h
    unfold cb_u
    rw [h]
    rfl
  · intro h
    apply Classical.byContradiction
    intro hn
    have h6 := h4 (by omega)
    have h7 := cb_V_zero' h (z b 1 - 1).toNat (by omega)
    have h8 := (hS.1 b hO).2.2 (z b 1 - 1).toNat
    omega
theorem cb_v0 {b : Nat} (hk : cb_k K r z A b) (hS : cb_S L K r A) (hO : cw_O L K 0 b) : (z b 1 = 0 ↔ cb_v r z A b = 0) := by
  rw [cb_u0 hk hS hO]
  unfold cb_v
  split <;> omega
/-- how long it is, by its size -/
theorem cb_len {b : Nat} (hk : cb_k K r z A b) (hS : cb_S L K r A) (hO : cw_O L K 0 b) {n : Nat} (h : cb_u r z A b < 4294967296 ^ n) : z b 1 ≤ n := by
  obtain ⟨⟨h1, h2⟩, h3, h4, h5⟩ := hk
  apply Classical.byContradiction
  intro hn
  have h6 := h4 (by omega)
  have h8 := (hS.1 b hO).2.2 (z b 1 - 1).toNat
  have h9 := cb_V_top (g := A (r b 0)) (n := (z b 1 - 1).toNat) (by omega)
  have h10 : (z b 1 - 1).toNat + 1 = (z b 1).toNat := by omega
  rw [h10] at h9
  have h11 := cb_pow_le (m := n) (n := (z b 1 - 1).toNat) (by omega)
  unfold cb_u at h
  omega
theorem cb_u_lt (r : Nat → Nat → Nat) (z A : Nat → Nat → Int) (b : Nat) : cb_u r z A b < 4294967296 ^ (z b 1).toNat := (cb_V_range _ _).2
theorem cb_u_lt' {b : Nat} (hk : cb_k K r z A b) : cb_u r z A b < 4294967296 ^ (cw_n K (r b 0)) := by
  have h1 := cb_u_lt r z A b
  have h2 := cb_pow_le (m := (z b 1).toNat) (n := cw_n K (r b 0)) (by have := hk.1; omega)
  omega
/-- what every Big's method needs -/
theorem cb_n (h : cb_S L K r A) {b : Nat} (hO : cw_O L K 0 b) : cw_A L K 0 (r b 0) ∧ (2 ≤ cw_n K (r b 0) ∧ cw_n K (r b 0) ≤ 64) := ⟨(h.1 b hO).1, (h.1 b hO).2.1⟩
end CB

-- 18.b02
section CB
variable {L : List Nat} {K : Nat → cw_K} {r : Nat → Nat → Nat} {z A : Nat → Nat → Int} {b : Nat}
theorem wq_c0_sign (h : cb_all L K r z A) (hO : cw_O L K 0 b) {Q : Int → Prop} (hQ : ∀ x : Int, (x = 0 ↔ cb_v r z A b = 0) → (x = 1 ↔ 0 < cb_v r z A b) → (x = -1 ↔ cb_v r z A b < 0) → (x = 0 ∨ x = 1 ∨ x = -1) → Q x) : wp_c0_sign L K z r A b Q := by
  obtain ⟨⟨h1, h2⟩, h3, h4, h5⟩ := h.2 b hO
  have hn := cb_n h.1 hO
  have e0 := cb_u0 (h.2 b hO) h.1 hO
  have e1 := cb_u_nn r z A b
  have hv : cb_v r z A b = if z b 2 = 1 then - cb_u r z A b else cb_u r z A b := rfl
  have key : ∀ x : Int, (z b 1 = 0 → x = 0) → (¬ z b 1 = 0 → z b 2 = 0 → x = 1) → (¬ z b 1 = 0 → ¬ z b 2 = 0 → x = -1) → Q x := by
    intro x x0 x1 x2
    rcases h3 with h3 | h3 <;> rw [h3] at hv <;> simp at hv <;> refine hQ x ?_ ?_ ?_ ?_ <;> omega
  refine ⟨hO, by omega, fun c => ⟨by omega, fun c2 => ?_, fun c2 => ?_⟩, fun c => ?_⟩
  · exact key 1 (fun q => absurd q c) (fun _ _ => rfl) (fun _ q => absurd c2 q)
  · exact key (-1) (fun q => absurd q c) (fun _ q => absurd q c2) (fun _ _ => rfl)
  · exact key 0 (fun _ => rfl) (fun q => absurd c q) (fun q => absurd c q)
theorem wq_c0_digit (hS : cb_S L K r A) (hk : 0 ≤ z b 1 ∧ z b 1 ≤ (cw_n K (r b 0) : Int)) (hO : cw_O L K 0 b) {i : Int} (i0 : 0 ≤ i) (i1 : i < 2147483648) {Q : Int → Prop} (hQ : ∀ x : Int, (0 ≤ x ∧ x < 4294967296) → (i < z b 1 → x = A (r b 0) i.toNat % 4294967296) → (z b 1 ≤ i → x = 0) → Q x) : wp_c0_digit L K z r A b i Q := by
  have hn := cb_n hS hO
  have hr := (hS.1 b hO).2.2 i.toNat
  refine ⟨hO, by omega, by omega, fun c => ?_, fun c => ?_⟩
  · exact hQ 0 (by omega) (fun q => by omega) (fun _ => rfl)
  · refine ⟨hn.1, by omega, by omega, fun x hx => ?_⟩
    exact hQ x (by omega) (fun _ => hx) (fun q => by omega)
theorem wq_c0_isOne (h : cb_all L K r z A) (hO : cw_O L K 0 b) {Q : Int → Prop} (hQ : ∀ x : Int, (x = 0 ∨ x = 1) → (x = 1 ↔ cb_v r z A b = 1) → Q x) : wp_c0_isOne L K z r A b Q := by
  obtain ⟨⟨h1, h2⟩, h3, h4, h5⟩ := h.2 b hO
  have hn := cb_n h.1 hO
  have hr := (h.1.1 b hO).2.2
  have hv : cb_v r z A b = if z b 2 = 1 then - cb_u r z A b else cb_u r z A b := rfl
  have e1 := cb_u_nn r z A b
  have hu : cb_u r z A b = 1 ↔ (z b 1 = 1 ∧ A (r b 0) 0 = 1) := by
    constructor
    · intro e
      have l1 := cb_len (n := 1) (h.2 b hO) h.1 hO (by omega)
      have l0 := cb_u0 (h.2 b hO) h.1 hO
      have l2 : z b 1 = 1 := by omega
      refine ⟨l2, ?_⟩
      unfold cb_u at e
      rw [l2] at e
      have e3 : cb_V (A (r b 0)) 1 = A (r b 0) 0 % 4294967296 := by simp [cb_V]
      have e4 : A (r b 0) 0 % 4294967296 = 1 := e3.symm.trans e
      have := hr 0
      omega
    · intro ⟨a1, a2⟩
      unfold cb_u
      rw [a1]
      have e3 : cb_V (A (r b 0)) 1 = A (r b 0) 0 % 4294967296 := by simp [cb_V]
      exact e3.trans (by omega)
  have key : ∀ x : Int, (x = 0 ∨ x = 1) → (x = 1 ↔ (z b 1 = 1 ∧ A (r b 0) 0 = 1 ∧ z b 2 = 0)) → Q x := by
    intro x hx e
    refine hQ x hx (e.trans ?_)
    rcases h3 with h3 | h3 <;> rw [h3] at hv <;> simp at hv <;> rw [hv, h3]
    · rw [hu]; omega
    · omega
  have k0 : ∀ x : Int, x = 0 → (¬ z b 1 = 1 ∨ ¬ A (r b 0) 0 = 1 ∨ ¬ z b 2 = 0) → Q x := by
    intro x hx hc
    exact key x (Or.inl hx) ⟨fun q => by omega, fun ⟨q1, q2, q3⟩ => by omega⟩
  have hr0 := hr 0
  refine ⟨hO, by omega, fun c => ?_, fun c => ⟨hn.1, by omega, by simpa using hr0, fun c2 => ?_, fun c2 => ⟨by omega, fun c3 => ?_, fun c3 => ?_⟩⟩⟩
  · exact ⟨by omega, k0 0 rfl (Or.inl c)⟩
  · exact ⟨by omega, k0 0 rfl (Or.inr (Or.inl (by simpa using c2)))⟩
  · exact ⟨by omega, k0 0 rfl (Or.inr (Or.inr c3))⟩
  · exact ⟨by omega, key 1 (Or.inr rfl) ⟨fun _ => ⟨c, by simpa using c2, by omega⟩, fun _ => rfl⟩⟩
theorem wq_c0_trim (hS : cb_S L K r A) (hO : cw_O L K 0 b) {u : Int} (u0 : 0 ≤ u) (u1 : u ≤ (cw_n K (r b 0) : Int)) (h2 : z b 2 = 0 ∨ z b 2 = 1) {Q : (Nat → Nat → Int) → Prop} (hQ : ∀ z' : Nat → Nat → Int, (∀ a, a ≠ b → z' a = z a) → cb_k K r z' A b → cb_u r z' A b = cb_V (A (r b 0)) u.toNat → z' b 1 ≤ u → (0 < z' b 1 → z' b 2 = z b 2) → Q z') : wp_c0_trim L K z r A b u Q := by
  have hn := cb_n hS hO
  have hr := (hS.1 b hO).2.2
  have ex : ∀ z1 : Nat → Nat → Int, (∀ a, a ≠ b → z1 a = z a) → 0 ≤ z1 b 1 → z1 b 1 ≤ u → z1 b 2 = z b 2 → (0 < z1 b 1 → ¬ A (r b 0) (z1 b 1 - 1).toNat = 0) → cb_V (A (r b 0)) (z1 b 1).toNat = cb_V (A (r b 0)) u.toNat → wp_c0_trim_39 L K z1 r A b Q := by
    intro z1 hz l0 l1 e2 ht hV
    have fin : ∀ t : Int, (t = 0 ∨ t = 1) → (0 < z1 b 1 → t = z b 2) → (z1 b 1 = 0 → t = 0) → Q (cw_s z1 b 2 t) := by
      intro t ht1 ht2 ht3
      have a1 : cw_s z1 b 2 t b 1 = z1 b 1 := cw_s_k (by decide)
      have a2 : cw_s z1 b 2 t b 2 = t := cw_s_same _ _ _ _
      refine hQ _ (fun a ha => (cw_s_a ha).trans (hz a ha)) ?_ ?_ (by rw [a1]; exact l1) (by rw [a1, a2]; exact ht2)
      · unfold cb_k
        rw [a1, a2]
        exact ⟨⟨l0, by omega⟩, ht1, ht, ht3⟩
      · unfold cb_u
        rw [a1]
        exact hV
    refine ⟨hO, by omega, fun c => ?_, fun c => ⟨by omega, fun c2 => ?_, fun c2 => ?_⟩⟩
    · refine ⟨hO, by omega, fun z2 e => ?_⟩
      rw [e]; exact fin 0 (by omega) (fun _ => by omega) (fun _ => rfl)
    · refine ⟨hO, by omega, fun z2 e => ?_⟩
      rw [e]; exact fin 0 (by omega) (fun _ => by omega) (fun _ => rfl)
    · refine ⟨hO, by omega, fun z2 e => ?_⟩
      rw [e]; exact fin 1 (by omega) (fun _ => by omega) (fun _ => by omega)
  refine ⟨hO, fun z1 e1 => ?_⟩
  intro P hP
  have key : ∀ (n : Nat) (z1 : Nat → Nat → Int), z1 b 1 = (n : Int) → (n : Int) ≤ u → z1 b 2 = z b 2 → (∀ a, a ≠ b → z1 a = z a) → cb_V (A (r b 0)) n = cb_V (A (r b 0)) u.toNat → P z1 := by
    intro n
    induction n with
    | zero =>
      intro z1 l0 l1 e2 hz hV
      refine hP z1 ⟨hO, by omega, fun c => ?_, fun c => by omega⟩
      refine ex z1 hz (by omega) (by omega) e2 (fun q => by omega) ?_
      rw [l0]; exact hV
    | succ n ih =>
      intro z1 l0 l1 e2 hz hV
      have e9 : (z1 b 1 - 1).toNat = n := by omega
      have hrn := hr n
      refine hP z1 ⟨hO, by omega, fun c => by omega, fun c => ⟨hn.1, by omega, by rw [e9]; exact hrn, fun c2 => ?_, fun c2 z2 ez => ?_⟩⟩
      · exact ex z1 hz (by omega) (by omega) e2 (fun _ => c2) (by rw [show (z1 b 1).toNat = n + 1 by omega]; exact hV)
      · rw [e9] at c2
        refine ih z2 ?_ (by omega) ?_ ?_ ?_
        · rw [ez, cw_s_same]; omega
        · rw [ez, cw_s_k (by decide)]; exact e2
        · intro a ha; rw [ez, cw_s_a ha]; exact hz a ha
        · rw [← hV, cb_V, c2]; simp
  refine key u.toNat z1 ?_ (by omega) ?_ ?_ rfl
  · rw [e1, cw_s_same]; omega
  · rw [e1, cw_s_k (by decide)]
  · intro a ha; rw [e1, cw_s_a ha]
theorem wq_c0_negate (h : cb_all L K r z A) (hO : cw_O L K 0 b) {Q : (Nat → Nat → Int) → Prop} (hQ : ∀ z' : Nat → Nat → Int, cb_all L K r z' A → cb_Y r b z A z' A → cb_v r z' A b = - cb_v r z A b → z' b 1 = z b 1 → Q z') : wp_c0_negate L K z r A b Q := by
  obtain ⟨⟨h1, h2⟩, h3, h4, h5⟩ := h.2 b hO
  have e0 := cb_u0 (h.2 b hO) h.1 hO
  have hn := cb_n h.1 hO
  have key : ∀ t : Int, (t = 0 ∨ t = 1) → (0 < z b 1 → t = 1 - z b 2) → (z b 1 = 0 → t = 0) → Q (cw_s z b 2 t) := by
    intro t t1 t2 t3
    have a1 : cw_s z b 2 t b 1 = z b 1 := cw_s_k (by decide)
    have a2 : cw_s z b 2 t b 2 = t := cw_s_same _ _ _ _
    have hY : cb_Y r b z A (cw_s z b 2 t) A := ⟨fun a ha => cw_s_a ha, fun _ _ => rfl⟩
    refine hQ _ (cb_all_of h hO hY h.1 ?_) hY ?_ a1
    · unfold cb_k
      rw [a1, a2]
      exact ⟨⟨h1, h2⟩, t1, h4, t3⟩
    · unfold cb_v cb_u
      rw [a1, a2]
      have e1 : cb_u r z A b = cb_V (A (r b 0)) (z b 1).toNat := rfl
      rw [← e1]
      by_cases hz : z b 1 = 0
      · have := e0.mp hz
        rw [this]
        simp
      · have := t2 (by omega)
        rcases h3 with h3 | h3
        · rw [h3] at this ⊢
          rw [if_pos (by omega), if_neg (by omega)]
        · rw [h3] at this ⊢
          rw [if_neg (by omega), if_pos rfl]
          omega
  have lst : ∀ t : Int, (t = 0 ∨ t = 1) → (0 < z b 1 → t = 1 - z b 2) → (z b 1 = 0 → t = 0) → wp_c0_negate_20 L K z r A t b Q := by
    intro t t1 t2 t3
    refine ⟨hO, t1, fun z2 e => ?_⟩
    rw [e]; exact key t t1 t2 t3
  refine ⟨hO, by omega, fun c => ?_, fun c => ⟨by omega, fun c2 => ?_, fun c2 => ?_⟩⟩
  · exact lst 0 (by omega) (fun _ => by omega) (fun _ => rfl)
  · exact lst 0 (by omega) (fun _ => by omega) (fun _ => rfl)
  · exact lst 1 (by omega) (fun _ => by omega) (fun _ => by omega)
end CB

-- 18.b03
/-- a loop that writes the digits d from the lowest up has come to n -/
noncomputable def cb_L (A0 A : Nat → Nat → Int) (d n : Nat) : Prop := (∀ a, a ≠ d → A a = A0 a) ∧ (∀ j, n ≤ j → A d j = A0 d j) ∧ ∀ j, hz_rI (A d j)
theorem cb_L_rd {A0 A : Nat → Nat → Int} {d n : Nat} (h : cb_L A0 A d n) (e : Nat) {j : Nat} (hj : n ≤ j) : A e j = A0 e j := by
  by_cases he : e = d
  · subst he; exact h.2.1 j hj
  · rw [h.1 e he]
theorem cb_L_put {A0 A : Nat → Nat → Int} {d n : Nat} (h : cb_L A0 A d n) {i x : Int} (hi : i = (n : Int)) (hx : hz_rI x) : cb_L A0 (hz_s A d i x) d (n + 1) := by
  subst hi
  refine ⟨fun a ha => (hz_s_a ha).trans (h.1 a ha), fun j hj => (hz_s_i (by simp; omega)).trans (h.2.1 j (by omega)), fun j => ?_⟩
  by_cases hj : j = n
  · subst hj
    have := hz_s_same (A := A) d (j : Int) x
    simp at this
    rw [this]; exact hx
  · rw [hz_s_i (by simp; exact hj)]; exact h.2.2 j
theorem cb_L_V {A : Nat → Nat → Int} {d n : Nat} {i x t : Int} (hi : i = (n : Int)) (hx : x % 4294967296 = t % 4294967296) : cb_V (hz_s A d i x d) (n + 1) = cb_V (A d) n + t % 4294967296 * 4294967296 ^ n := by
  subst hi
  rw [cb_V, cb_V_congr (h := A d) (fun j hj => by rw [hz_s_i (by simp; omega)])]
  have := hz_s_same (A := A) d (n : Int) x
  simp at this
  rw [this, hx]
theorem cb_V_top' {g : Nat → Int} {n : Nat} (h : 4294967296 ^ n ≤ cb_V g (n + 1)) : ¬ g n % 4294967296 = 0 := by
  intro e
  have h1 := cb_V_range g n
  rw [cb_V, e] at h
  simp at h
  omega
/-- the same number, read further up where there are but zeros -/
theorem cb_V_more {g : Nat → Int} {m n : Nat} (h : m ≤ n) (e : ∀ j, m ≤ j → j < n → g j % 4294967296 = 0) : cb_V g n = cb_V g m := by
  induction n with
  | zero => rw [show m = 0 by omega]
  | succ n ih =>
    by_cases hm : m = n + 1
    · rw [hm]
    · rw [cb_V, e n (by omega) (by omega), ih (by omega) (fun j h1 h2 => e j h1 (by omega))]
      simp
section CB
variable {L : List Nat} {K : Nat → cw_K} {r : Nat → Nat → Nat} {z A : Nat → Nat → Int} {b : Nat}
theorem cb_L_start (hS : cb_S L K r A) (hO : cw_O L K 0 b) : cb_L A A (r b 0) 0 := ⟨fun _ _ => rfl, fun _ _ => rfl, (hS.1 b hO).2.2⟩
theorem cb_L_S (hS : cb_S L K r A) (hO : cw_O L K 0 b) {A' : Nat → Nat → Int} {n : Nat} (h : cb_L A A' (r b 0) n) : cb_S L K r A' := cb_S_keep hS hO h.1 h.2.2
theorem wq_c0_orderOfSizes {c : Nat} (h : cb_all L K r z A) (hO : cw_O L K 0 b) (hO2 : cw_O L K 0 c) {Q : Int → Prop} (hQ : ∀ x : Int, (x = 0 ∨ x = 1 ∨ x = -1) → (x = 0 ↔ cb_u r z A b = cb_u r z A c) → (x = 1 ↔ cb_u r z A c < cb_u r z A b) → (x = -1 ↔ cb_u r z A b < cb_u r z A c) → Q x) : wp_c0_orderOfSizes L K z r A b c Q := by
  obtain ⟨⟨h1, h2⟩, h3, h4, h5⟩ := h.2 b hO
  obtain ⟨⟨k1, k2⟩, k3, k4, k5⟩ := h.2 c hO2
  have hn := cb_n h.1 hO
  have kn := cb_n h.1 hO2
  have hr := (h.1.1 b hO).2.2
  have kr := (h.1.1 c hO2).2.2
  have less : ∀ {x y : Nat}, cw_O L K 0 x → cw_O L K 0 y → z x 1 < z y 1 → cb_u r z A x < cb_u r z A y := by
    intro x y ox oy hxy
    apply Classical.byContradiction
    intro hc
    have l1 := cb_u_lt r z A x
    have l2 := cb_len (n := (z x 1).toNat) (h.2 y oy) h.1 oy (by omega)
    have := (h.2 x ox).1
    omega
  refine ⟨hO, hO2, by omega, by omega, fun c1 x2 e2 => ?_, fun c1 => ⟨by omega, by omega, fun c2 => ?_, fun c2 => ?_⟩⟩
  · intro P hP
    have key : ∀ (n : Nat) (x2 : Int), x2 = (n : Int) - 1 → (n : Int) ≤ z b 1 → (∀ j, n ≤ j → j < (z b 1).toNat → A (r b 0) j = A (r c 0) j) → P x2 := by
      intro n
      induction n with
      | zero =>
        intro x2 e2 l1 ha
        refine hP x2 ⟨by omega, fun _ => ?_, fun c2 => by omega⟩
        have : cb_u r z A b = cb_u r z A c := by
          unfold cb_u
          rw [← c1]
          exact cb_V_congr (fun i hi => by rw [ha i (by omega) hi])
        exact hQ 0 (Or.inl rfl) (by omega) (by omega) (by omega)
      | succ n ih =>
        intro x2 e2 l1 ha
        have en : x2.toNat = n := by omega
        have hrn := hr n
        have krn := kr n
        refine hP x2 ⟨by omega, fun _ => by omega, fun _ => ⟨hO, hn.1, by omega, hO2, kn.1, by omega, by rw [en]; exact hrn, by rw [en]; exact krn, fun c2 x3 e3 => ?_, fun c2 => ?_⟩⟩
        · rw [en] at c2
          refine ih x3 (by omega) (by omega) (fun j j1 j2 => ?_)
          by_cases hj : j = n
          · rw [hj]; exact c2
          · exact ha j (by omega) j2
        · rw [en] at c2
          have split : ∀ y, cw_O L K 0 y → z y 1 = z b 1 → cb_u r z A y = cb_V (A (r y 0)) n + A (r y 0) n % 4294967296 * 4294967296 ^ n + 4294967296 ^ (n + 1) * cb_V (fun i => A (r y 0) (n + 1 + i)) ((z b 1).toNat - (n + 1)) := by
            intro y oy ey
            unfold cb_u
            rw [ey, show (z b 1).toNat = n + 1 + ((z b 1).toNat - (n + 1)) by omega, cb_V_add, cb_V, show n + 1 + ((z b 1).toNat - (n + 1)) - (n + 1) = (z b 1).toNat - (n + 1) by omega]
          have s1 := split b hO rfl
          have s2 := split c hO2 c1.symm
          have s3 : cb_V (fun i => A (r b 0) (n + 1 + i)) ((z b 1).toNat - (n + 1)) = cb_V (fun i => A (r c 0) (n + 1 + i)) ((z b 1).toNat - (n + 1)) := cb_V_congr (fun i hi => by
            show A (r b 0) (n + 1 + i) % _ = A (r c 0) (n + 1 + i) % _
            rw [ha (n + 1 + i) (by omega) (by omega)])
          rw [s3] at s1
          have r1 := cb_V_range (A (r b 0)) n
          have r2 := cb_V_range (A (r c 0)) n
          have hp := cb_p n
          refine wq_c0_digit h.1 ⟨h1, h2⟩ hO (by omega) (by omega) (fun v1 b1 q1 _ => ?_)
          refine wq_c0_digit h.1 ⟨k1, k2⟩ hO2 (by omega) (by omega) (fun v2 b2 q2 _ => ?_)
          have q1 := q1 (by omega)
          have q2 := q2 (by omega)
          rw [en] at q1 q2
          refine ⟨by omega, by omega, fun c3 => ?_, fun c3 => ?_⟩
          · have d1 : (A (r c 0) n % 4294967296 + 1) * 4294967296 ^ n ≤ A (r b 0) n % 4294967296 * 4294967296 ^ n := Int.mul_le_mul_of_nonneg_right (by omega) (by omega)
            rw [Int.add_mul] at d1
            exact hQ 1 (by omega) (by omega) (by omega) (by omega)
          · have d1 : (A (r b 0) n % 4294967296 + 1) * 4294967296 ^ n ≤ A (r c 0) n % 4294967296 * 4294967296 ^ n := Int.mul_le_mul_of_nonneg_right (by omega) (by omega)
            rw [Int.add_mul] at d1
            exact hQ (-1) (by omega) (by omega) (by omega) (by omega)
    exact key (z b 1).toNat x2 (by omega) (by omega) (fun j j1 j2 => by omega)
  · have := less hO2 hO (by omega)
    exact hQ 1 (by omega) (by omega) (by omega) (by omega)
  · have := less hO hO2 (by omega)
    exact hQ (-1) (by omega) (by omega) (by omega) (by omega)
theorem wq_c0_order {c : Nat} (h : cb_all L K r z A) (hO : cw_O L K 0 b) (hO2 : cw_O L K 0 c) {Q : Int → Prop} (hQ : ∀ x : Int, (x = 0 ∨ x = 1 ∨ x = -1) → (x = 0 ↔ cb_v r z A b = cb_v r z A c) → (x = 1 ↔ cb_v r z A c < cb_v r z A b) → (x = -1 ↔ cb_v r z A b < cb_v r z A c) → Q x) : wp_c0_order L K z r A b c Q := by
  obtain ⟨_, h3, _, _⟩ := h.2 b hO
  obtain ⟨_, k3, _, _⟩ := h.2 c hO2
  have hv : cb_v r z A b = if z b 2 = 1 then - cb_u r z A b else cb_u r z A b := rfl
  have kv : cb_v r z A c = if z c 2 = 1 then - cb_u r z A c else cb_u r z A c := rfl
  have e1 := cb_u_nn r z A b
  have e2 := cb_u_nn r z A c
  have sg : (z b 2 = 1 → cb_v r z A b < 0) := by
    intro q
    have h5 := (h.2 b hO).2.2.2
    have := (cb_u0 (h.2 b hO) h.1 hO)
    rw [hv, if_pos q]
    omega
  have sk : (z c 2 = 1 → cb_v r z A c < 0) := by
    intro q
    have h5 := (h.2 c hO2).2.2.2
    have := (cb_u0 (h.2 c hO2) h.1 hO2)
    rw [kv, if_pos q]
    omega
  refine ⟨hO, wq_c0_sign h hO (fun x1 a1 a2 a3 a4 => ⟨hO2, wq_c0_sign h hO2 (fun x2 b1 b2 b3 b4 => ⟨by omega, by omega, fun c1 => ⟨by omega, fun c2 => ?_, fun c2 => ?_⟩, fun c1 => ?_⟩)⟩)⟩
  · refine wq_c0_orderOfSizes h hO hO2 (fun x o1 o2 o3 o4 => ?_)
    rw [if_neg (by omega)] at hv
    have : ¬ z c 2 = 1 := fun q => by have := sk q; omega
    rw [if_neg this] at kv
    exact hQ x o1 (by omega) (by omega) (by omega)
  · refine wq_c0_orderOfSizes h hO2 hO (fun x o1 o2 o3 o4 => ?_)
    rw [if_pos (by omega)] at hv
    have := sg (by omega)
    have : z c 2 = 1 := by
      apply Classical.byContradiction
      intro q
      rw [if_neg q] at kv
      omega
    rw [if_pos this] at kv
    exact hQ x o1 (by omega) (by omega) (by omega)
  · refine wq_c0_sign h hO (fun x3 a1' a2' a3' a4' => wq_c0_sign h hO2 (fun x4 b1' b2' b3' b4' => ⟨by omega, by omega, fun c2 => ?_, fun c2 => ?_⟩))
    · exact hQ 1 (by omega) (by omega) (by omega) (by omega)
    · exact hQ (-1) (by omega) (by omega) (by omega) (by omega)
end CB

-- 18.b04
section CB
variable {L : List Nat} {K : Nat → cw_K} {r : Nat → Nat → Nat} {z A : Nat → Nat → Int} {b : Nat}
theorem wq_c0_putSum {l s : Nat} (h : cb_all L K r z A) (hO : cw_O L K 0 b) (hl : cw_O L K 0 l) (hs : cw_O L K 0 s) (hlen : z s 1 ≤ z l 1) (hpos : 0 < z l 1) (hfit : cb_u r z A l + cb_u r z A s < 4294967296 ^ (cw_n K (r b 0))) {Q : (Nat → Nat → Int) → (Nat → Nat → Int) → Prop} (hQ : ∀ z' A' : Nat → Nat → Int, cb_all L K r z' A' → cb_Y r b z A z' A' → cb_u r z' A' b = cb_u r z A l + cb_u r z A s → 0 < z' b 1 → z' b 2 = z b 2 → Q z' A') : wp_c0_putSum L K z r A b l s Q := by
  have hn := cb_n h.1 hO
  have ln := cb_n h.1 hl
  have sn := cb_n h.1 hs
  have h3 := (h.2 b hO).2.1
  obtain ⟨⟨l1, l2⟩, _, l4, _⟩ := h.2 l hl
  obtain ⟨⟨s1, s2⟩, _, _, _⟩ := h.2 s hs
  have us := cb_u_nn r z A s
  have ul := cb_u_nn r z A l
  have lb := cb_len (n := cw_n K (r b 0)) (h.2 l hl) h.1 hl (by omega)
  have htop : 4294967296 ^ ((z l 1).toNat - 1) ≤ cb_u r z A l := by
    have t1 := l4 hpos
    have t2 := (h.1.1 l hl).2.2 (z l 1 - 1).toNat
    have t3 := cb_V_top (g := A (r l 0)) (n := (z l 1 - 1).toNat) (by omega)
    rw [show (z l 1 - 1).toNat + 1 = (z l 1).toNat by omega] at t3
    rw [show (z l 1).toNat - 1 = (z l 1 - 1).toNat by omega]
    exact t3
  refine ⟨hl, hO, hn.1, by omega, by omega, fun x3 q3 => ⟨hs, by omega, by omega, fun x4 q4 => ?_⟩⟩
  have e3 : x3 = z l 1 := by omega
  have e4 : x4 = z s 1 := by omega
  clear q3 q4
  subst e3
  subst e4
  -- the end
  have fin : ∀ (A1 : Nat → Nat → Int) (c : Int), cb_L A A1 (r b 0) (z l 1).toNat → (c = 0 ∨ c = 1) → cb_V (A1 (r b 0)) (z l 1).toNat + c * 4294967296 ^ (z l 1).toNat = cb_u r z A l + cb_u r z A s → ∀ x7 : Int, x7 = z l 1 → (cw_O L K 0 b ∧ ∀ z_3 : Nat → Nat → Int, z_3 = cw_s z b 1 (z l 1) → hz_rL c ∧ ((c = 0 → wp_c0_putSum_176 L K z_3 r A1 Q) ∧ (¬ (c = 0) → cw_A L K 0 (r b 0) ∧ hz_rI (z l 1) ∧ hz_rI (cw_n K (r b 0) : Int) ∧ (((cw_n K (r b 0) : Int) ≤ z l 1 → wp_c0_putSum_176 L K z_3 r A1 Q) ∧ (¬ ((cw_n K (r b 0) : Int) ≤ z l 1) → ∀ x9_7 : Int, hz_rI x9_7 → x9_7 % 4294967296 = c % 4294967296 → ((0 : Int) ≤ z l 1 ∧ z l 1 < (cw_n K (r b 0) : Int)) ∧ ∀ A_8 : Nat → Nat → Int, A_8 = hz_s A1 (r b 0) (z l 1) x9_7 → ∀ z_9 : Nat → Nat → Int, z_9 = cw_s z_3 b 1 (z l 1 + 1) → wp_c0_putSum_176 L K z_9 r A_8 Q))))) := by
    intro A1 c hL hc hV x7 e7
    refine ⟨hO, fun z3 e3 => ⟨by omega, fun c0 => ?_, fun c0 => ⟨hn.1, by omega, by omega, fun c1 => ?_, fun c1 x9 x9r x9e => ⟨by omega, fun A8 e8 z9 e9 => ?_⟩⟩⟩⟩
    · have hY : cb_Y r b z A z3 A1 := ⟨fun a ha => by rw [e3, cw_s_a ha], hL.1⟩
      have a1 : z3 b 1 = z l 1 := by rw [e3, cw_s_same]
      have a2 : z3 b 2 = z b 2 := by rw [e3, cw_s_k (by decide)]
      rw [c0] at hV
      simp at hV
      have hS1 := cb_L_S h.1 hO hL
      refine hQ z3 A1 (cb_all_of h hO hY hS1 ?_) hY ?_ (by omega) a2
      · unfold cb_k
        rw [a1, a2]
        refine ⟨⟨by omega, by omega⟩, h3, fun _ q => ?_, fun q => by omega⟩
        have t := cb_V_top' (g := A1 (r b 0)) (n := (z l 1).toNat - 1) (by rw [show (z l 1).toNat - 1 + 1 = (z l 1).toNat by omega]; omega)
        rw [show (z l 1 - 1).toNat = (z l 1).toNat - 1 by omega] at q
        rw [q] at t
        exact t rfl
      · unfold cb_u at hV ⊢
        rw [a1]
        exact hV
    · exfalso
      have e : z l 1 = (cw_n K (r b 0) : Int) := by omega
      rw [e] at hV
      have := cb_V_range (A1 (r b 0)) (cw_n K (r b 0))
      have c1 : c = 1 := by omega
      rw [c1] at hV
      simp at hV
      omega
    · have c1 : c = 1 := by omega
      subst c1
      have x1 : x9 = 1 := by omega
      subst x1
      have hY : cb_Y r b z A z9 A8 := ⟨fun a ha => by rw [e9, cw_s_a ha, e3, cw_s_a ha], fun a ha => by rw [e8, hz_s_a ha]; exact hL.1 a ha⟩
      have a1 : z9 b 1 = z l 1 + 1 := by rw [e9, cw_s_same]
      have a2 : z9 b 2 = z b 2 := by rw [e9, cw_s_k (by decide), e3, cw_s_k (by decide)]
      have hL8 : cb_L A A8 (r b 0) ((z l 1).toNat + 1) := by rw [e8]; exact cb_L_put hL (by omega) (by omega)
      have hV8 : cb_V (A8 (r b 0)) ((z l 1).toNat + 1) = cb_V (A1 (r b 0)) (z l 1).toNat + 1 % 4294967296 * 4294967296 ^ (z l 1).toNat := by rw [e8]; exact cb_L_V (by omega) rfl
      have hS1 := cb_L_S h.1 hO hL8
      refine hQ z9 A8 (cb_all_of h hO hY hS1 ?_) hY ?_ (by omega) a2
      · unfold cb_k
        rw [a1, a2]
        refine ⟨⟨by omega, by omega⟩, h3, fun _ q => ?_, fun q => by omega⟩
        have t := hz_s_same (A := A1) (r b 0) (z l 1) 1
        rw [← e8] at t
        rw [show (z l 1 + 1 - 1).toNat = (z l 1).toNat by omega, t] at q
        omega
      · have : cb_u r z9 A8 b = cb_V (A8 (r b 0)) ((z l 1).toNat + 1) := by unfold cb_u; rw [a1, show (z l 1 + 1).toNat = (z l 1).toNat + 1 by omega]
        rw [this, hV8, ← hV]
        simp
  -- the longer one's upper digits
  have two : ∀ (A1 : Nat → Nat → Int) (c : Int), cb_L A A1 (r b 0) (z s 1).toNat → (c = 0 ∨ c = 1) → cb_V (A1 (r b 0)) (z s 1).toNat + c * 4294967296 ^ (z s 1).toNat = cb_V (A (r l 0)) (z s 1).toNat + cb_u r z A s → wp_c0_putSum_93 L K z r A1 b l (z l 1) c (z s 1) Q := by
    intro A1 c hL hc hV
    intro P hP
    have key : ∀ (k n : Nat) (A1 : Nat → Nat → Int) (c x7 : Int), n + k = (z l 1).toNat → x7 = (n : Int) → cb_L A A1 (r b 0) n → (c = 0 ∨ c = 1) → cb_V (A1 (r b 0)) n + c * 4294967296 ^ n = cb_V (A (r l 0)) n + cb_u r z A s → P A1 c x7 := by
      intro k
      induction k with
      | zero =>
        intro n A1 c x7 en e7 hL hc hV
        have en : n = (z l 1).toNat := by omega
        subst en
        refine hP A1 c x7 ⟨by omega, by omega, fun _ => ?_, fun q => by omega⟩
        exact fin A1 c hL hc hV x7 (by omega)
      | succ k ih =>
        intro n A1 c x7 en e7 hL hc hV
        subst e7
        have rd := cb_L_rd hL (r l 0) (Nat.le_refl n)
        have rr := (h.1.1 l hl).2.2 n
        have e9 : ((n : Int)).toNat = n := by omega
        refine hP A1 c n ⟨by omega, by omega, fun q => by omega, fun _ => ⟨hl, ln.1, by omega, by rw [e9, rd]; exact rr, fun x e x5 e5 => ⟨hO, fun y yr ye => ⟨hn.1, by omega, fun A2 e2 w ew x8 e8 => ?_⟩⟩⟩⟩
        rw [e9, rd] at e
        refine ih (n + 1) A2 w x8 (by omega) (by omega) (by rw [e2]; exact cb_L_put hL rfl yr) (by omega) ?_
        have hV2 : cb_V (A2 (r b 0)) (n + 1) = cb_V (A1 (r b 0)) n + x5 % 4294967296 * 4294967296 ^ n := by rw [e2]; exact cb_L_V rfl ye
        have d1 : x5 = x5 % 4294967296 + w * 4294967296 := by omega
        rw [hV2, cb_V, ← e, Int.pow_succ]
        have d2 : x5 * 4294967296 ^ n = x5 % 4294967296 * 4294967296 ^ n + w * (4294967296 ^ n * 4294967296) := by
          rw [Int.mul_comm (4294967296 ^ n) 4294967296, ← Int.mul_assoc, ← Int.add_mul, ← d1]
        have d3 : x5 * 4294967296 ^ n = c * 4294967296 ^ n + x * 4294967296 ^ n := by rw [e5, Int.add_mul]
        omega
    exact key ((z l 1).toNat - (z s 1).toNat) (z s 1).toNat A1 c (z s 1) (by omega) (by omega) hL hc hV
  -- both
  intro P hP
  have key : ∀ (k n : Nat) (A1 : Nat → Nat → Int) (c x7 : Int), n + k = (z s 1).toNat → x7 = (n : Int) → cb_L A A1 (r b 0) n → (c = 0 ∨ c = 1) → cb_V (A1 (r b 0)) n + c * 4294967296 ^ n = cb_V (A (r l 0)) n + cb_V (A (r s 0)) n → P A1 c x7 := by
    intro k
    induction k with
    | zero =>
      intro n A1 c x7 en e7 hL hc hV
      have en : n = (z s 1).toNat := by omega
      subst en
      refine hP A1 c x7 ⟨by omega, by omega, fun _ => ?_, fun q => by omega⟩
      exact two A1 c hL hc hV
    | succ k ih =>
      intro n A1 c x7 en e7 hL hc hV
      subst e7
      have rd := cb_L_rd hL (r l 0) (Nat.le_refl n)
      have rd2 := cb_L_rd hL (r s 0) (Nat.le_refl n)
      have rr := (h.1.1 l hl).2.2 n
      have rr2 := (h.1.1 s hs).2.2 n
      have e9 : ((n : Int)).toNat = n := by omega
      refine hP A1 c n ⟨by omega, by omega, fun q => by omega, fun _ => ⟨hl, ln.1, by omega, by rw [e9, rd]; exact rr, fun x e => ⟨hs, sn.1, by omega, by rw [e9, rd2]; exact rr2, fun y9 ey x5 e5 => ⟨hO, fun y yr ye => ⟨hn.1, by omega, fun A2 e2 w ew x8 e8 => ?_⟩⟩⟩⟩⟩
      rw [e9, rd] at e
      rw [e9, rd2] at ey
      refine ih (n + 1) A2 w x8 (by omega) (by omega) (by rw [e2]; exact cb_L_put hL rfl yr) (by omega) ?_
      have hV2 : cb_V (A2 (r b 0)) (n + 1) = cb_V (A1 (r b 0)) n + x5 % 4294967296 * 4294967296 ^ n := by rw [e2]; exact cb_L_V rfl ye
      have d1 : x5 = x5 % 4294967296 + w * 4294967296 := by omega
      rw [hV2, cb_V, cb_V, ← e, ← ey, Int.pow_succ]
      have d2 : x5 * 4294967296 ^ n = x5 % 4294967296 * 4294967296 ^ n + w * (4294967296 ^ n * 4294967296) := by
        rw [Int.mul_comm (4294967296 ^ n) 4294967296, ← Int.mul_assoc, ← Int.add_mul, ← d1]
      have d3 : x5 * 4294967296 ^ n = c * 4294967296 ^ n + (x * 4294967296 ^ n + y9 * 4294967296 ^ n) := by rw [e5, Int.add_mul, Int.add_mul]
      omega
  exact key (z s 1).toNat 0 A 0 0 (by omega) rfl (cb_L_start h.1 hO) (Or.inl rfl) (by simp [cb_V])
end CB

-- 18.b05
section CB
variable {L : List Nat} {K : Nat → cw_K} {r : Nat → Nat → Nat} {z A : Nat → Nat → Int} {b : Nat}
theorem wq_c0_putDifference {l s : Nat} (h : cb_all L K r z A) (hO : cw_O L K 0 b) (hl : cw_O L K 0 l) (hs : cw_O L K 0 s) (hle : cb_u r z A s ≤ cb_u r z A l) (hfit : z l 1 ≤ (cw_n K (r b 0) : Int)) {Q : (Nat → Nat → Int) → (Nat → Nat → Int) → Prop} (hQ : ∀ z' A' : Nat → Nat → Int, cb_all L K r z' A' → cb_Y r b z A z' A' → cb_u r z' A' b = cb_u r z A l - cb_u r z A s → z' b 1 ≤ z l 1 → (0 < z' b 1 → z' b 2 = z b 2) → Q z' A') : wp_c0_putDifference L K z r A b l s Q := by
  have hn := cb_n h.1 hO
  have ln := cb_n h.1 hl
  have sn := cb_n h.1 hs
  have h3 := (h.2 b hO).2.1
  obtain ⟨⟨l1, l2⟩, _, l4, _⟩ := h.2 l hl
  obtain ⟨⟨s1, s2⟩, _, _, _⟩ := h.2 s hs
  have us := cb_u_nn r z A s
  have ul := cb_u_nn r z A l
  have lt := cb_u_lt r z A l
  have lb := cb_len (n := (z l 1).toNat) (h.2 s hs) h.1 hs (by omega)
  refine ⟨hl, hO, hn.1, by omega, by omega, fun x3 q3 => ⟨hs, by omega, by omega, fun x4 q4 => ?_⟩⟩
  have e3 : x3 = z l 1 := by omega
  have e4 : x4 = z s 1 := by omega
  clear q3 q4
  subst e3
  subst e4
  have two : ∀ (A1 : Nat → Nat → Int) (c : Int), cb_L A A1 (r b 0) (z s 1).toNat → (c = 0 ∨ c = 1) → cb_V (A1 (r b 0)) (z s 1).toNat + cb_u r z A s = cb_V (A (r l 0)) (z s 1).toNat + c * 4294967296 ^ (z s 1).toNat → wp_c0_putDifference_100 L K z r A1 b l (z l 1) c (z s 1) Q := by
    intro A1 c hL hc hV
    intro P hP
    have key : ∀ (k n : Nat) (A1 : Nat → Nat → Int) (c x7 : Int), n + k = (z l 1).toNat → x7 = (n : Int) → cb_L A A1 (r b 0) n → (c = 0 ∨ c = 1) → cb_V (A1 (r b 0)) n + cb_u r z A s = cb_V (A (r l 0)) n + c * 4294967296 ^ n → P A1 c x7 := by
      intro k
      induction k with
      | zero =>
        intro n A1 c x7 en e7 hL hc hV
        have en : n = (z l 1).toNat := by omega
        subst en
        refine hP A1 c x7 ⟨by omega, by omega, fun _ => ⟨hO, ?_⟩, fun q => by omega⟩
        have hS1 := cb_L_S h.1 hO hL
        have rg := cb_V_range (A1 (r b 0)) (z l 1).toNat
        have el : cb_u r z A l = cb_V (A (r l 0)) (z l 1).toNat := rfl
        have c0 : c = 0 := by
          rcases hc with hc | hc
          · exact hc
          · rw [hc] at hV
            simp at hV
            omega
        rw [c0] at hV
        simp at hV
        refine wq_c0_trim hS1 hO (by omega) (by omega) h3 (fun z2 hz hk hu hle2 hsg => ?_)
        have hY : cb_Y r b z A z2 A1 := ⟨hz, hL.1⟩
        exact hQ z2 A1 (cb_all_of h hO hY hS1 hk) hY (by omega) (by omega) hsg
      | succ k ih =>
        intro n A1 c x7 en e7 hL hc hV
        subst e7
        have rd := cb_L_rd hL (r l 0) (Nat.le_refl n)
        have rr := (h.1.1 l hl).2.2 n
        have e9 : ((n : Int)).toNat = n := by omega
        have step : ∀ (x x5 y : Int) (A2 : Nat → Nat → Int) (t : Int), x = A (r l 0) n % 4294967296 → x5 = x - c → hz_rI y → y % 4294967296 = x5 % 4294967296 → A2 = hz_s A1 (r b 0) n y → ((0 ≤ x5 ∧ t = 0) ∨ (x5 < 0 ∧ t = 1)) → ∀ x8 : Int, x8 = (n : Int) + 1 → P A2 t x8 := by
          intro x x5 y A2 t e e5 yr ye e2 ht x8 e8
          refine ih (n + 1) A2 t x8 (by omega) (by omega) (by rw [e2]; exact cb_L_put hL rfl yr) (by omega) ?_
          have hV2 : cb_V (A2 (r b 0)) (n + 1) = cb_V (A1 (r b 0)) n + x5 % 4294967296 * 4294967296 ^ n := by rw [e2]; exact cb_L_V rfl ye
          have d1 : x5 = x5 % 4294967296 - t * 4294967296 := by omega
          rw [hV2, cb_V, ← e, Int.pow_succ]
          have d2 : x5 * 4294967296 ^ n = x5 % 4294967296 * 4294967296 ^ n - t * (4294967296 ^ n * 4294967296) := by
            rw [Int.mul_comm (4294967296 ^ n) 4294967296, ← Int.mul_assoc, ← Int.sub_mul, ← d1]
          have d3 : x5 * 4294967296 ^ n = x * 4294967296 ^ n - c * 4294967296 ^ n := by rw [e5, Int.sub_mul]
          omega
        refine hP A1 c n ⟨by omega, by omega, fun q => by omega, fun _ => ⟨hl, ln.1, by omega, by rw [e9, rd]; exact rr, fun x e x5 e5 => ⟨hO, fun y yr ye => ⟨hn.1, by omega, fun A2 e2 => ⟨by omega, fun q x8 e8 => ?_, fun q x8 e8 => ?_⟩⟩⟩⟩⟩
        · rw [e9, rd] at e
          exact step x x5 y A2 0 e e5 yr ye e2 (by omega) x8 e8
        · rw [e9, rd] at e
          exact step x x5 y A2 1 e e5 yr ye e2 (by omega) x8 e8
    exact key ((z l 1).toNat - (z s 1).toNat) (z s 1).toNat A1 c (z s 1) (by omega) (by omega) hL hc hV
  intro P hP
  have key : ∀ (k n : Nat) (A1 : Nat → Nat → Int) (c x7 : Int), n + k = (z s 1).toNat → x7 = (n : Int) → cb_L A A1 (r b 0) n → (c = 0 ∨ c = 1) → cb_V (A1 (r b 0)) n + cb_V (A (r s 0)) n = cb_V (A (r l 0)) n + c * 4294967296 ^ n → P A1 c x7 := by
    intro k
    induction k with
    | zero =>
      intro n A1 c x7 en e7 hL hc hV
      have en : n = (z s 1).toNat := by omega
      subst en
      refine hP A1 c x7 ⟨by omega, by omega, fun _ => ?_, fun q => by omega⟩
      exact two A1 c hL hc hV
    | succ k ih =>
      intro n A1 c x7 en e7 hL hc hV
      subst e7
      have rd := cb_L_rd hL (r l 0) (Nat.le_refl n)
      have rd2 := cb_L_rd hL (r s 0) (Nat.le_refl n)
      have rr := (h.1.1 l hl).2.2 n
      have rr2 := (h.1.1 s hs).2.2 n
      have e9 : ((n : Int)).toNat = n := by omega
      have step : ∀ (x w x5 y : Int) (A2 : Nat → Nat → Int) (t : Int), x = A (r l 0) n % 4294967296 → w = A (r s 0) n % 4294967296 → x5 = x - w - c → hz_rI y → y % 4294967296 = x5 % 4294967296 → A2 = hz_s A1 (r b 0) n y → ((0 ≤ x5 ∧ t = 0) ∨ (x5 < 0 ∧ t = 1)) → ∀ x8 : Int, x8 = (n : Int) + 1 → P A2 t x8 := by
        intro x w x5 y A2 t e ew e5 yr ye e2 ht x8 e8
        refine ih (n + 1) A2 t x8 (by omega) (by omega) (by rw [e2]; exact cb_L_put hL rfl yr) (by omega) ?_
        have hV2 : cb_V (A2 (r b 0)) (n + 1) = cb_V (A1 (r b 0)) n + x5 % 4294967296 * 4294967296 ^ n := by rw [e2]; exact cb_L_V rfl ye
        have d1 : x5 = x5 % 4294967296 - t * 4294967296 := by omega
        rw [hV2, cb_V, cb_V, ← e, ← ew, Int.pow_succ]
        have d2 : x5 * 4294967296 ^ n = x5 % 4294967296 * 4294967296 ^ n - t * (4294967296 ^ n * 4294967296) := by
          rw [Int.mul_comm (4294967296 ^ n) 4294967296, ← Int.mul_assoc, ← Int.sub_mul, ← d1]
        have d3 : x5 * 4294967296 ^ n = x * 4294967296 ^ n - w * 4294967296 ^ n - c * 4294967296 ^ n := by rw [e5, Int.sub_mul, Int.sub_mul]
        omega
      refine hP A1 c n ⟨by omega, by omega, fun q => by omega, fun _ => ⟨hl, ln.1, by omega, by rw [e9, rd]; exact rr, fun x e => ⟨hs, sn.1, by omega, by rw [e9, rd2]; exact rr2, fun w ew x5 e5 => ⟨hO, fun y yr ye => ⟨hn.1, by omega, fun A2 e2 => ⟨by omega, fun q x8 e8 => ?_, fun q x8 e8 => ?_⟩⟩⟩⟩⟩⟩
      · rw [e9, rd] at e
        rw [e9, rd2] at ew
        exact step x w x5 y A2 0 e ew e5 yr ye e2 (by omega) x8 e8
      · rw [e9, rd] at e
        rw [e9, rd2] at ew
        exact step x w x5 y A2 1 e ew e5 yr ye e2 (by omega) x8 e8
  exact key (z s 1).toNat 0 A 0 0 (by omega) rfl (cb_L_start h.1 hO) (Or.inl rfl) (by simp [cb_V])
theorem wq_c0_copy {c : Nat} (h : cb_all L K r z A) (hO : cw_O L K 0 b) (hc : cw_O L K 0 c) (hfit : z c 1 ≤ (cw_n K (r b 0) : Int)) {Q : (Nat → Nat → Int) → (Nat → Nat → Int) → Prop} (hQ : ∀ z' A' : Nat → Nat → Int, cb_all L K r z' A' → cb_Y r b z A z' A' → cb_u r z' A' b = cb_u r z A c → cb_v r z' A' b = cb_v r z A c → z' b 1 = z c 1 → z' b 2 = z c 2 → Q z' A') : wp_c0_copy L K z r A b c Q := by
  have hn := cb_n h.1 hO
  have cn := cb_n h.1 hc
  have cr := (h.1.1 c hc).2.2
  have br := (h.1.1 b hO).2.2
  obtain ⟨⟨c1, c2⟩, c3, c4, c5⟩ := h.2 c hc
  refine ⟨hc, hO, hn.1, by omega, by omega, fun x q z1 e1 => ?_⟩
  have ex : x = z c 1 := by omega
  clear q
  subst ex
  have a1 : z1 b 1 = z c 1 := by rw [e1, cw_s_same]
  have a2 : z1 c 2 = z c 2 := by rw [e1, cw_s_k (by decide)]
  refine ⟨cn.1, by rw [a1]; omega, fun A7 e7 => ⟨by rw [a2]; exact c3, fun z8 e8 => ?_⟩⟩
  have b1 : z8 b 1 = z c 1 := by rw [e8, cw_s_k (by decide)]; exact a1
  have b2 : z8 b 2 = z c 2 := by rw [e8, cw_s_same]; exact a2
  have hd : ∀ i : Nat, A7 (r b 0) i = if (i : Int) < z c 1 then A (r c 0) i else A (r b 0) i := by
    intro i
    rw [e7, a1]
    unfold cw_cp
    rw [lp_U_same]
  have hY : cb_Y r b z A z8 A7 := ⟨fun a ha => by rw [e8, cw_s_a ha, e1, cw_s_a ha], fun a ha => by rw [e7]; unfold cw_cp; rw [lp_U_other ha]⟩
  have hS7 : cb_S L K r A7 := cb_S_keep h.1 hO hY.2 (fun i => by rw [hd]; split; exact cr i; exact br i)
  have hu : cb_u r z8 A7 b = cb_u r z A c := by
    unfold cb_u
    rw [b1]
    refine cb_V_congr (fun i hi => ?_)
    rw [hd, if_pos (by omega)]
  refine hQ z8 A7 (cb_all_of h hO hY hS7 ?_) hY hu ?_ b1 b2
  · unfold cb_k
    rw [b1, b2]
    refine ⟨⟨c1, hfit⟩, c3, fun q => ?_, c5⟩
    rw [hd, if_pos (by omega)]
    exact c4 q
  · unfold cb_v
    rw [hu, b2]
theorem wq_c0_put {v : Int} (h : cb_all L K r z A) (hO : cw_O L K 0 b) (hv : -9223372036854775808 < v ∧ v < 9223372036854775808) {Q : (Nat → Nat → Int) → (Nat → Nat → Int) → Prop} (hQ : ∀ z' A' : Nat → Nat → Int, cb_all L K r z' A' → cb_Y r b z A z' A' → cb_v r z' A' b = v → z' b 1 ≤ 2 → Q z' A') : wp_c0_put L K z r A b v Q := by
  have hn := cb_n h.1 hO
  have main : ∀ (x t : Int), (0 ≤ x ∧ x < 9223372036854775808) → ((t = 0 ∧ v = x) ∨ (t = 1 ∧ v = -x ∧ 0 < x)) → wp_c0_put_25 L K z r A b x t b Q := by
    intro x t hx ht
    refine ⟨hO, by omega, fun z1 e1 => ⟨hO, fun z2 e2 => ?_⟩⟩
    have fin : ∀ (n : Nat) (z3 A3 : Nat → Nat → Int), cb_L A A3 (r b 0) n → n ≤ 2 → (∀ a, a ≠ b → z3 a = z a) → z3 b 1 = (n : Int) → z3 b 2 = t → cb_V (A3 (r b 0)) n = x → (0 < n → ¬ A3 (r b 0) (n - 1) = 0) → Q z3 A3 := by
      intro n z3 A3 hL n2 hz l3 s3 hV hnz
      have hY : cb_Y r b z A z3 A3 := ⟨hz, hL.1⟩
      have hS3 := cb_L_S h.1 hO hL
      refine hQ z3 A3 (cb_all_of h hO hY hS3 ?_) hY ?_ (by omega)
      · unfold cb_k
        rw [l3, s3]
        refine ⟨⟨by omega, by omega⟩, by omega, fun q => ?_, fun q => ?_⟩
        · rw [show ((n : Int) - 1).toNat = n - 1 by omega]; exact hnz (by omega)
        · have : n = 0 := by omega
          rw [this] at hV
          simp [cb_V] at hV
          omega
      · unfold cb_v cb_u
        rw [l3, s3, show ((n : Int)).toNat = n by omega, hV]
        split <;> omega
    intro P hP
    have z2b : z2 b 2 = t := by rw [e2, cw_s_k (by decide), e1, cw_s_same]
    have z2l : z2 b 1 = 0 := by rw [e2, cw_s_same]
    have z2o : ∀ a, a ≠ b → z2 a = z a := fun a ha => by rw [e2, cw_s_a ha, e1, cw_s_a ha]
    have key : ∀ (k n : Nat) (z3 A3 : Nat → Nat → Int) (x3 x5 : Int), n + k = 2 → x5 = (n : Int) → cb_L A A3 (r b 0) n → (∀ a, a ≠ b → z3 a = z a) → z3 b 1 = (n : Int) → z3 b 2 = t → 0 ≤ x3 → x3 < 9223372036854775808 → x3 * 4294967296 ^ n < 18446744073709551616 → cb_V (A3 (r b 0)) n + x3 * 4294967296 ^ n = x → (x3 = 0 → 0 < n → ¬ A3 (r b 0) (n - 1) = 0) → P z3 A3 x3 x5 := by
      intro k
      induction k with
      | zero =>
        intro n z3 A3 x3 x5 en e5 hL hz l3 s3 p0 p1 p2 hV hnz
        have en : n = 2 := by omega
        subst en
        refine hP z3 A3 x3 x5 ⟨by omega, fun _ => ?_, fun q => by omega⟩
        have x0 : x3 = 0 := by
          have : (4294967296 : Int) ^ 2 = 18446744073709551616 := by decide
          rw [this] at p2
          omega
        subst x0
        exact fin 2 z3 A3 hL (by omega) hz l3 s3 (by simpa using hV) (hnz rfl)
      | succ k ih =>
        intro n z3 A3 x3 x5 en e5 hL hz l3 s3 p0 p1 p2 hV hnz
        subst e5
        refine hP z3 A3 x3 n ⟨by omega, fun q => by omega, fun _ => ⟨hO, hn.1, by omega, by omega, fun q => by omega, fun _ => ⟨by omega, fun q => ?_, fun q y yr ye => ⟨by omega, fun A4 e4 w ew z4 e5 x6 e6 => ?_⟩⟩⟩⟩
        · subst q
          exact fin n z3 A3 hL (by omega) hz l3 s3 (by simpa using hV) (hnz rfl)
        · have d1 : x3 = x3 % 4294967296 + w * 4294967296 := by omega
          have d2 : x3 * 4294967296 ^ n = x3 % 4294967296 * 4294967296 ^ n + w * (4294967296 ^ n * 4294967296) := by
            rw [Int.mul_comm (4294967296 ^ n) 4294967296, ← Int.mul_assoc, ← Int.add_mul, ← d1]
          have hp := cb_p n
          have d3 : 0 ≤ x3 % 4294967296 * 4294967296 ^ n := Int.mul_nonneg (by omega) (by omega)
          refine ih (n + 1) z4 A4 w x6 (by omega) (by omega) (by rw [e4]; exact cb_L_put hL rfl yr) (fun a ha => by rw [e5, cw_s_a ha]; exact hz a ha) (by rw [e5, cw_s_same]; omega) (by rw [e5, cw_s_k (by decide)]; exact s3) (by omega) (by omega) (by rw [Int.pow_succ]; omega) ?_ ?_
          · have hV2 : cb_V (A4 (r b 0)) (n + 1) = cb_V (A3 (r b 0)) n + x3 % 4294967296 * 4294967296 ^ n := by rw [e4]; exact cb_L_V rfl ye
            rw [hV2, Int.pow_succ]
            omega
          · intro w0 _ q2
            have t := hz_s_same (A := A3) (r b 0) (n : Int) y
            rw [← e4, show ((n : Int)).toNat = n by omega] at t
            rw [show n + 1 - 1 = n by omega, t] at q2
            omega
    refine key 2 0 z2 A x 0 (by omega) rfl (cb_L_start h.1 hO) z2o z2l z2b hx.1 hx.2 (by simp; omega) (by simp [cb_V]) (fun _ q => by omega)
  refine ⟨by omega, fun c => ⟨by omega, fun c1 => ?_, fun c1 => by omega⟩, fun c => ⟨by omega, fun c1 => by omega, fun c1 => ?_⟩⟩
  · exact main v 0 (by omega) (by omega)
  · exact main (-v) 1 (by omega) (by omega)
end CB

-- 18.b06
section CB
variable {L : List Nat} {K : Nat → cw_K} {r : Nat → Nat → Nat} {z A : Nat → Nat → Int} {b : Nat}
theorem wq_c0_plus {c : Nat} (h : cb_all L K r z A) (hO : cw_O L K 0 b) (hc : cw_O L K 0 c) (hbc : c ≠ b) (hfit : cb_u r z A b + cb_u r z A c < 4294967296 ^ (cw_n K (r b 0))) {Q : (Nat → Nat → Int) → (Nat → Nat → Int) → Prop} (hQ : ∀ z' A' : Nat → Nat → Int, cb_all L K r z' A' → cb_Y r b z A z' A' → cb_v r z' A' b = cb_v r z A b + cb_v r z A c → Q z' A') : wp_c0_plus L K z r A b c Q := by
  have hn := cb_n h.1 hO
  obtain ⟨⟨b1, b2⟩, b3, b4, b5⟩ := h.2 b hO
  obtain ⟨⟨c1, c2⟩, c3, c4, c5⟩ := h.2 c hc
  have cn := cb_n h.1 hc
  have ub := cb_u_nn r z A b
  have uc := cb_u_nn r z A c
  have lc := cb_len (n := cw_n K (r b 0)) (h.2 c hc) h.1 hc (by omega)
  have lb := cb_u0 (h.2 b hO) h.1 hO
  have l0 := cb_u0 (h.2 c hc) h.1 hc
  have vb : cb_v r z A b = if z b 2 = 1 then - cb_u r z A b else cb_u r z A b := rfl
  have vc : cb_v r z A c = if z c 2 = 1 then - cb_u r z A c else cb_u r z A c := rfl
  refine ⟨hc, by omega, fun q1 => ⟨hO, by omega, fun q2 => ⟨by omega, by omega, fun q3 => ?_, fun q3 => ?_⟩, fun q2 => ?_⟩, fun q1 => ?_⟩
  · refine wq_c0_orderOfSizes h hO hc (fun x x1 x2 x3 x4 => ⟨by omega, fun q4 => ⟨c3, fun z1 e1 => ?_⟩, fun q4 => ?_⟩)
    · have hY1 : cb_Y r b z A z1 A := ⟨fun a ha => by rw [e1, cw_s_a ha], fun _ _ => rfl⟩
      have a1 : z1 b 1 = z b 1 := by rw [e1, cw_s_k (by decide)]
      have a2 : z1 b 2 = z c 2 := by rw [e1, cw_s_same]
      have h1 : cb_all L K r z1 A := cb_all_of h hO hY1 h.1 (by unfold cb_k; rw [a1, a2]; exact ⟨⟨b1, b2⟩, c3, b4, fun q => by omega⟩)
      have u1 : cb_u r z1 A b = cb_u r z A b := by unfold cb_u; rw [a1]
      have o1 := cb_k_other h.1 hO hc hbc hY1
      refine wq_c0_putDifference h1 hO hc hO (by omega) (by rw [hY1.1 c hbc]; omega) (fun z2 A2 h2 hY2 hu hl2 hs2 => ?_)
      refine hQ z2 A2 h2 (cb_Y_trans hY1 hY2) ?_
      rw [o1.2.1, u1] at hu
      have hk2 := h2.2 b hO
      have hpos : 0 < z2 b 1 := by
        have := cb_u0 hk2 h2.1 hO
        have := hk2.1
        omega
      have s2 := hs2 hpos
      unfold cb_v at vb vc ⊢
      rw [hu, s2, a2]
      split <;> split <;> omega
    · refine wq_c0_putDifference h hO hO hc (by omega) (by omega) (fun z2 A2 h2 hY2 hu hl2 hs2 => ?_)
      refine hQ z2 A2 h2 hY2 ?_
      have hk2 := h2.2 b hO
      have e0 := cb_u0 hk2 h2.1 hO
      have s0 := hk2.2.2.2
      have p0 := hk2.1
      unfold cb_v at vb vc ⊢
      rw [hu]
      by_cases hz : z2 b 1 = 0
      · have := s0 hz
        have := e0.mp hz
        rw [if_neg (by omega)]
        split <;> split <;> omega
      · rw [hs2 (by omega)]
        split <;> split <;> omega
  · have fin : ∀ (l s : Nat), (l = b ∧ s = c ∨ l = c ∧ s = b) → z s 1 ≤ z l 1 → wp_c0_plus_67 L K z r A s l b Q := by
      intro l s hls hlen
      have hl : cw_O L K 0 l := by rcases hls with ⟨e, _⟩ | ⟨e, _⟩ <;> rw [e] <;> assumption
      have hs : cw_O L K 0 s := by rcases hls with ⟨_, e⟩ | ⟨_, e⟩ <;> rw [e] <;> assumption
      have hsum : cb_u r z A l + cb_u r z A s = cb_u r z A b + cb_u r z A c := by rcases hls with ⟨e, e'⟩ | ⟨e, e'⟩ <;> rw [e, e'] ; omega
      have hpos : 0 < z l 1 := by rcases hls with ⟨e, _⟩ | ⟨e, _⟩ <;> rw [e] <;> omega
      refine ⟨hO, wq_c0_putSum h hO hl hs hlen hpos (by omega) (fun z2 A2 h2 hY2 hu hp hs2 => ?_)⟩
      refine hQ z2 A2 h2 hY2 ?_
      unfold cb_v at vb vc ⊢
      rw [hu, hs2, hsum]
      split <;> split <;> omega
    refine ⟨by omega, by omega, fun q4 => ⟨hO, hc, by omega, by omega, fun q5 => ?_, fun q5 => by omega⟩, fun q4 => ⟨hO, hc, by omega, by omega, fun q5 => by omega, fun q5 => ?_⟩⟩
    · exact fin c b (Or.inr ⟨rfl, rfl⟩) (by omega)
    · exact fin b c (Or.inl ⟨rfl, rfl⟩) (by omega)
  · refine wq_c0_copy h hO hc (by omega) (fun z2 A2 h2 hY2 hu hv2 _ _ => ?_)
    refine hQ z2 A2 h2 hY2 ?_
    have := (cb_v0 (h.2 b hO) h.1 hO).mp q2
    omega
  · refine hQ z A h (cb_Y_refl _ _ _ _) ?_
    have := (cb_v0 (h.2 c hc) h.1 hc).mp q1
    omega
/-- digits y0[shift ..] get the multiple of c added: shift + length of c ≤ used; the rest of what is used is still 0 -/
theorem wq_c0_addMultiple {c : Nat} (hS : cb_S L K r A) (hkc : 0 ≤ z c 1 ∧ z c 1 ≤ (cw_n K (r c 0) : Int)) (hO : cw_O L K 0 b) (hc : cw_O L K 0 c) (hbc : c ≠ b) {f : Int} (hf : 0 ≤ f ∧ f < 4294967296) {sh : Nat} {used : Int} (hu : (sh : Int) + z c 1 < used) (hu2 : used ≤ (cw_n K (r b 0) : Int)) (h0 : A (r b 0) (sh + (z c 1).toNat) % 4294967296 = 0) {Q : (Nat → Nat → Int) → Prop} (hQ : ∀ A' : Nat → Nat → Int, cb_S L K r A' → (∀ a, a ≠ r b 0 → A' a = A a) → (∀ j, sh + (z c 1).toNat < j → A' (r b 0) j = A (r b 0) j) → cb_V (A' (r b 0)) (sh + (z c 1).toNat + 1) = cb_V (A (r b 0)) (sh + (z c 1).toNat + 1) + f * cb_V (A (r c 0)) (z c 1).toNat * 4294967296 ^ sh → Q A') : wp_c0_addMultiple L K z r A b c f sh used Q := by
  have hn := cb_n hS hO
  have cn := cb_n hS hc
  have cr := (hS.1 c hc).2.2
  have ne : r c 0 ≠ r b 0 := cb_ne hS hO hc hbc
  refine ⟨hc, by omega, by omega, fun x6 q6 => ?_⟩
  have e6 : x6 = (sh : Int) + z c 1 := by omega
  clear q6
  subst e6
  intro P hP
  have key : ∀ (k n : Nat) (A1 : Nat → Nat → Int) (y x9 : Int), n + k = (z c 1).toNat → x9 = (sh : Int) + (n : Int) → cb_L A A1 (r b 0) (sh + n) → (0 ≤ y ∧ y < 4294967296) → cb_V (A1 (r b 0)) (sh + n) + y * 4294967296 ^ (sh + n) = cb_V (A (r b 0)) (sh + n) + f * cb_V (A (r c 0)) n * 4294967296 ^ sh → P A1 y x9 := by
    intro k
    induction k with
    | zero =>
      intro n A1 y x9 en e9 hL hy hV
      have en : n = (z c 1).toNat := by omega
      subst en
      refine hP A1 y x9 ⟨by omega, by omega, fun _ => ⟨by omega, by omega, fun q => by omega, fun _ => ⟨hO, fun w wr we => ⟨hn.1, by omega, fun A2 e2 => ?_⟩⟩⟩, fun q => by omega⟩
      have hL2 : cb_L A A2 (r b 0) (sh + (z c 1).toNat + 1) := by rw [e2]; exact cb_L_put hL (by omega) wr
      have hV2 : cb_V (A2 (r b 0)) (sh + (z c 1).toNat + 1) = cb_V (A1 (r b 0)) (sh + (z c 1).toNat) + y % 4294967296 * 4294967296 ^ (sh + (z c 1).toNat) := by rw [e2]; exact cb_L_V (by omega) we
      refine hQ A2 (cb_L_S hS hO hL2) hL2.1 (fun j hj => hL2.2.1 j (by omega)) ?_
      rw [hV2, cb_V, h0, show y % 4294967296 = y by omega]
      omega
    | succ k ih =>
      intro n A1 y x9 en e9 hL hy hV
      have rd : A1 (r c 0) n = A (r c 0) n := by rw [hL.1 _ ne]
      have rb := hL.2.1 (sh + n) (Nat.le_refl _)
      have rr := cr n
      have rrb := hL.2.2 (sh + n)
      have i1 : (x9 - (sh : Int)).toNat = n := by omega
      have i2 : x9.toNat = sh + n := by omega
      refine hP A1 y x9 ⟨by omega, by omega, fun q => by omega, fun _ => ⟨hc, cn.1, by omega, by rw [i1, rd]; exact rr, fun g eg => ⟨hO, hn.1, by omega, by rw [i2]; exact rrb, fun o eo x7 e7 w wr we => ⟨by omega, fun A2 e2 v ev x8 e8 => ?_⟩⟩⟩⟩
      rw [i1, rd] at eg
      rw [i2, rb] at eo
      have hg : 0 ≤ g ∧ g ≤ 4294967295 := by omega
      have ho : 0 ≤ o ∧ o ≤ 4294967295 := by omega
      have fg0 : 0 ≤ f * g := Int.mul_nonneg hf.1 hg.1
      have fg1 : f * g ≤ 4294967295 * 4294967295 := Int.mul_le_mul (by omega) hg.2 hg.1 (by omega)
      have x70 : 0 ≤ x7 ∧ x7 < 18446744073709551616 := by omega
      refine ih (n + 1) A2 v x8 (by omega) (by omega) (by rw [e2]; exact cb_L_put hL (by omega) wr) (by omega) ?_
      have hV2 : cb_V (A2 (r b 0)) (sh + n + 1) = cb_V (A1 (r b 0)) (sh + n) + x7 % 4294967296 * 4294967296 ^ (sh + n) := by rw [e2]; exact cb_L_V (by omega) we
      have d1 : x7 = x7 % 4294967296 + v * 4294967296 := by omega
      have d2 : x7 * 4294967296 ^ (sh + n) = x7 % 4294967296 * 4294967296 ^ (sh + n) + v * (4294967296 ^ (sh + n) * 4294967296) := by
        rw [Int.mul_comm (4294967296 ^ (sh + n)) 4294967296, ← Int.mul_assoc, ← Int.add_mul, ← d1]
      have d3 : x7 * 4294967296 ^ (sh + n) = y * 4294967296 ^ (sh + n) + (f * g * 4294967296 ^ (sh + n) + o * 4294967296 ^ (sh + n)) := by rw [e7, Int.add_mul, Int.add_mul]
      have d4 : f * (cb_V (A (r c 0)) n + g * 4294967296 ^ n) * 4294967296 ^ sh = f * cb_V (A (r c 0)) n * 4294967296 ^ sh + f * g * 4294967296 ^ (sh + n) := by
        rw [Int.mul_add, Int.add_mul, Int.pow_add]
        congr 1
        rw [← Int.mul_assoc, Int.mul_assoc, Int.mul_comm (4294967296 ^ n)]
      rw [show sh + (n + 1) = sh + n + 1 by omega, hV2, cb_V, cb_V, ← eg, ← eo, Int.pow_succ, d4]
      omega
  exact key (z c 1).toNat 0 A 0 sh (by omega) (by omega) ⟨fun _ _ => rfl, fun _ _ => rfl, (hS.1 b hO).2.2⟩ (by omega) (by simp [cb_V])
end CB

-- 18.b07
section CB
variable {L : List Nat} {K : Nat → cw_K} {r : Nat → Nat → Nat} {z A : Nat → Nat → Int} {b : Nat}
theorem wq_c0_putProduct {a c : Nat} (h : cb_all L K r z A) (hO : cw_O L K 0 b) (ha : cw_O L K 0 a) (hc : cw_O L K 0 c) (hba : a ≠ b) (hbc : c ≠ b) (hfit : z a 1 + z c 1 ≤ (cw_n K (r b 0) : Int)) {Q : (Nat → Nat → Int) → (Nat → Nat → Int) → Prop} (hQ : ∀ z' A' : Nat → Nat → Int, cb_all L K r z' A' → cb_Y r b z A z' A' → cb_v r z' A' b = cb_v r z A a * cb_v r z A c → z' b 1 ≤ z a 1 + z c 1 → Q z' A') : wp_c0_putProduct L K z r A b a c Q := by
  have hn := cb_n h.1 hO
  obtain ⟨⟨a1, a2⟩, a3, a4, a5⟩ := h.2 a ha
  obtain ⟨⟨c1, c2⟩, c3, c4, c5⟩ := h.2 c hc
  have an := cb_n h.1 ha
  have cn := cb_n h.1 hc
  have nea : r a 0 ≠ r b 0 := cb_ne h.1 hO ha hba
  have nec : r c 0 ≠ r b 0 := cb_ne h.1 hO hc hbc
  obtain ⟨N, hN⟩ : ∃ N : Nat, (N : Int) = z a 1 + z c 1 := ⟨(z a 1 + z c 1).toNat, by omega⟩
  have va : cb_v r z A a = if z a 2 = 1 then - cb_u r z A a else cb_u r z A a := rfl
  have vc : cb_v r z A c = if z c 2 = 1 then - cb_u r z A c else cb_u r z A c := rfl
  -- the end: sign, trim
  have fin : ∀ (A1 : Nat → Nat → Int), cb_S L K r A1 → (∀ x, x ≠ r b 0 → A1 x = A x) → cb_V (A1 (r b 0)) N = cb_u r z A a * cb_u r z A c → wp_c0_putProduct_79 L K z r A1 b a c N Q := by
    intro A1 hS1 hA1 hV
    have last : ∀ t : Int, (t = 0 ∧ z a 2 = z c 2 ∨ t = 1 ∧ ¬ z a 2 = z c 2) → wp_c0_putProduct_96 L K z r A1 b N t b Q := by
      intro t ht
      refine ⟨hO, by omega, fun z2 e2 => ⟨hO, ?_⟩⟩
      refine wq_c0_trim hS1 hO (by omega) (by omega) (by rw [e2, cw_s_same]; omega) (fun z3 hz hk hu hle hsg => ?_)
      have s2 : z2 b 2 = t := by rw [e2, cw_s_same]
      have hY : cb_Y r b z A z3 A1 := ⟨fun x hx => by rw [hz x hx, e2, cw_s_a hx], hA1⟩
      refine hQ z3 A1 (cb_all_of h hO hY hS1 hk) hY ?_ (by omega)
      have e0 := cb_u0 hk hS1 hO
      have s0 := hk.2.2.2
      have p0 := hk.1
      rw [show ((N : Int)).toNat = N by omega, hV] at hu
      have hgoal : cb_v r z3 A1 b = if z3 b 2 = 1 then - cb_u r z3 A1 b else cb_u r z3 A1 b := rfl
      rw [hgoal, va, vc]
      by_cases hz0 : z3 b 1 = 0
      · have u0 := e0.mp hz0
        rw [s0 hz0, if_neg (by decide)]
        rw [u0] at hu ⊢
        split <;> split <;> (try simp only [Int.neg_mul, Int.mul_neg]) <;> omega
      · rw [hsg (by omega), s2, hu]
        split <;> split <;> split <;> (try simp only [Int.neg_mul, Int.mul_neg]) <;> omega
    refine ⟨ha, hc, by omega, by omega, fun q => last 0 (by omega), fun q => last 1 (by omega)⟩
  -- the multiples
  have two : ∀ (A1 : Nat → Nat → Int), cb_S L K r A1 → (∀ x, x ≠ r b 0 → A1 x = A x) → (∀ j, j < N → A1 (r b 0) j = 0) → wp_c0_putProduct_44 L K z r A1 b a c N 0 Q := by
    intro A1 hS1 hA1 hz1
    intro P hP
    have key : ∀ (k n : Nat) (A2 : Nat → Nat → Int) (x : Int), n + k = (z a 1).toNat → x = (n : Int) → cb_S L K r A2 → (∀ y, y ≠ r b 0 → A2 y = A y) → (∀ j, n + (z c 1).toNat ≤ j → j < N → A2 (r b 0) j = 0) → cb_V (A2 (r b 0)) N = cb_V (A (r a 0)) n * cb_u r z A c → P A2 x := by
      intro k
      induction k with
      | zero =>
        intro n A2 x en ex hS2 hA2 hz2 hV
        have en : n = (z a 1).toNat := by omega
        subst en
        refine hP A2 x ⟨ha, by omega, by omega, fun _ => ?_, fun q => by omega⟩
        exact fin A2 hS2 hA2 hV
      | succ k ih =>
        intro n A2 x en ex hS2 hA2 hz2 hV
        subst ex
        refine hP A2 n ⟨ha, by omega, by omega, fun q => by omega, fun _ => ⟨by omega, by omega, fun q => by omega, fun _ => ?_⟩⟩
        refine wq_c0_digit hS2 ⟨a1, a2⟩ ha (by omega) (by omega) (fun f f1 f2 _ => ⟨hO, ?_⟩)
        have f2 := f2 (by omega)
        rw [show ((n : Int)).toNat = n by omega, hA2 _ nea] at f2
        have hz0 := hz2 (n + (z c 1).toNat) (by omega) (by omega)
        refine wq_c0_addMultiple hS2 ⟨c1, c2⟩ hO hc hbc f1 (sh := n) (by omega) (by omega) (by rw [hz0]; rfl) (fun A3 hS3 hA3 hj3 hV3 x4 e4 => ?_)
        refine ih (n + 1) A3 x4 (by omega) (by omega) hS3 (fun y hy => by rw [hA3 y hy, hA2 y hy]) (fun j j1 j2 => by rw [hj3 j (by omega)]; exact hz2 j (by omega) j2) ?_
        have m1 : cb_V (A3 (r b 0)) N = cb_V (A3 (r b 0)) (n + (z c 1).toNat + 1) := cb_V_more (by omega) (fun j j1 j2 => by rw [hj3 j (by omega), hz2 j (by omega) j2]; rfl)
        have m2 : cb_V (A2 (r b 0)) N = cb_V (A2 (r b 0)) (n + (z c 1).toNat + 1) := cb_V_more (by omega) (fun j j1 j2 => by rw [hz2 j (by omega) j2]; rfl)
        rw [m1, hV3, ← m2, hV, cb_V, ← f2, Int.add_mul, hA2 _ nec]
        have : cb_u r z A c = cb_V (A (r c 0)) (z c 1).toNat := rfl
        rw [this]
        congr 1
        rw [Int.mul_assoc, Int.mul_assoc, Int.mul_comm (cb_V _ _)]
    exact key (z a 1).toNat 0 A1 0 (by omega) rfl hS1 hA1 (fun j _ j2 => hz1 j j2) (by
      rw [cb_V_zero (fun j hj => by rw [hz1 j hj]; rfl)]
      simp [cb_V])
  refine ⟨ha, hc, hO, hn.1, by omega, by omega, fun x q => ?_⟩
  have ex : x = (N : Int) := by omega
  clear q
  subst ex
  intro P hP
  have key : ∀ (k n : Nat) (A1 : Nat → Nat → Int) (x : Int), n + k = N → x = (n : Int) → cb_L A A1 (r b 0) n → (∀ j, j < n → A1 (r b 0) j = 0) → P A1 x := by
    intro k
    induction k with
    | zero =>
      intro n A1 x en ex hL h0
      have en : n = N := by omega
      subst en
      refine hP A1 x ⟨by omega, by omega, fun _ => ?_, fun q => by omega⟩
      exact two A1 (cb_L_S h.1 hO hL) hL.1 h0
    | succ k ih =>
      intro n A1 x en ex hL h0
      subst ex
      refine hP A1 n ⟨by omega, by omega, fun q => by omega, fun _ => ⟨hO, hn.1, by omega, fun A2 e2 x4 e4 => ?_⟩⟩
      refine ih (n + 1) A2 x4 (by omega) (by omega) (by rw [e2]; exact cb_L_put hL rfl (by omega)) (fun j hj => ?_)
      rw [e2]
      by_cases hjn : j = n
      · have := hz_s_same (A := A1) (r b 0) (n : Int) 0
        rw [show ((n : Int)).toNat = n by omega] at this
        rw [hjn]; exact this
      · rw [hz_s_i (by omega)]; exact h0 j (by omega)
  exact key N 0 A 0 (by omega) rfl (cb_L_start h.1 hO) (fun j hj => by omega)
/-- by any number: it stays well formed, at most one digit longer; by one of 32 bits: the product -/
theorem wq_c0_scale {f : Int} (h : cb_all L K r z A) (hO : cw_O L K 0 b) {Q : (Nat → Nat → Int) → (Nat → Nat → Int) → Prop} (hQ : ∀ z' A' : Nat → Nat → Int, cb_all L K r z' A' → cb_Y r b z A z' A' → z' b 1 ≤ z b 1 + 1 → (0 ≤ f → f < 4294967296 → f * cb_u r z A b < 4294967296 ^ (cw_n K (r b 0)) → cb_u r z' A' b = f * cb_u r z A b ∧ (0 < z' b 1 → z' b 2 = z b 2)) → Q z' A') : wp_c0_scale L K z r A b f Q := by
  have hn := cb_n h.1 hO
  obtain ⟨⟨b1, b2⟩, b3, b4, b5⟩ := h.2 b hO
  refine ⟨hO, fun x5 e5 => ?_⟩
  subst e5
  intro P hP
  have fin : ∀ (A1 : Nat → Nat → Int) (u : Int), 0 ≤ u → u ≤ (cw_n K (r b 0) : Int) → u ≤ z b 1 + 1 → cb_S L K r A1 → (∀ x, x ≠ r b 0 → A1 x = A x) → (0 ≤ f → f < 4294967296 → f * cb_u r z A b < 4294967296 ^ (cw_n K (r b 0)) → cb_V (A1 (r b 0)) u.toNat = f * cb_u r z A b) → wp_c0_scale_83 L K z r A1 b u Q := by
    intro A1 u u0 u1 u2 hS1 hA1 hV
    refine ⟨hO, wq_c0_trim hS1 hO u0 u1 b3 (fun z2 hz hk hu hle hsg => ?_)⟩
    have hY : cb_Y r b z A z2 A1 := ⟨hz, hA1⟩
    exact hQ z2 A1 (cb_all_of h hO hY hS1 hk) hY (by omega) (fun f0 f1 f2 => ⟨by rw [hu]; exact hV f0 f1 f2, hsg⟩)
  have key : ∀ (k n : Nat) (A1 : Nat → Nat → Int) (c x6 : Int), n + k = (z b 1).toNat → x6 = (n : Int) → cb_L A A1 (r b 0) n → (0 ≤ c ∧ c < 4294967296) → (0 ≤ f → f < 4294967296 → cb_V (A1 (r b 0)) n + c * 4294967296 ^ n = f * cb_V (A (r b 0)) n) → P A1 c x6 := by
    intro k
    induction k with
    | zero =>
      intro n A1 c x6 en e6 hL hc hV
      have en : n = (z b 1).toNat := by omega
      subst en
      have hS1 := cb_L_S h.1 hO hL
      have eu : cb_u r z A b = cb_V (A (r b 0)) (z b 1).toNat := rfl
      refine hP A1 c x6 ⟨by omega, by omega, fun _ => ⟨by omega, fun q => ?_, fun q => ⟨hO, hn.1, by omega, by omega, fun q2 => ?_, fun q2 y yr ye => ⟨by omega, fun A2 e2 x7 e7 => ?_⟩⟩⟩, fun q => by omega⟩
      · exact fin A1 _ b1 b2 (by omega) hS1 hL.1 (fun f0 f1 _ => by have := hV f0 f1; rw [q] at this; rw [eu]; simpa using this)
      · refine fin A1 _ b1 b2 (by omega) hS1 hL.1 (fun f0 f1 f2 => ?_)
        exfalso
        have := hV f0 f1
        rw [← eu] at this
        have hp := cb_p (cw_n K (r b 0))
        rw [show (z b 1).toNat = cw_n K (r b 0) by omega] at this
        have rg := cb_V_range (A1 (r b 0)) (cw_n K (r b 0))
        have : 1 * 4294967296 ^ (cw_n K (r b 0)) ≤ c * 4294967296 ^ (cw_n K (r b 0)) := Int.mul_le_mul_of_nonneg_right (by omega) (by omega)
        omega
      · have hL2 : cb_L A A2 (r b 0) ((z b 1).toNat + 1) := by rw [e2]; exact cb_L_put hL (by omega) yr
        have hV2 : cb_V (A2 (r b 0)) ((z b 1).toNat + 1) = cb_V (A1 (r b 0)) (z b 1).toNat + c % 4294967296 * 4294967296 ^ (z b 1).toNat := by rw [e2]; exact cb_L_V (by omega) ye
        refine fin A2 x7 (by omega) (by omega) (by omega) (cb_L_S h.1 hO hL2) hL2.1 (fun f0 f1 _ => ?_)
        rw [show x7.toNat = (z b 1).toNat + 1 by omega, hV2, eu, ← hV f0 f1, show c % 4294967296 = c by omega]
    | succ k ih =>
      intro n A1 c x6 en e6 hL hc hV
      subst e6
      have rd := hL.2.1 n (Nat.le_refl n)
      have rr := hL.2.2 n
      have e9 : ((n : Int)).toNat = n := by omega
      refine hP A1 c n ⟨by omega, by omega, fun q => by omega, fun _ => ⟨hO, hn.1, by omega, by rw [e9]; exact rr, fun g eg x3 e3 y yr ye => ⟨by omega, fun A2 e2 w ew x7 e7 => ?_⟩⟩⟩
      rw [e9, rd] at eg
      refine ih (n + 1) A2 w x7 (by omega) (by omega) (by rw [e2]; exact cb_L_put hL rfl yr) (by omega) (fun f0 f1 => ?_)
      have hV2 : cb_V (A2 (r b 0)) (n + 1) = cb_V (A1 (r b 0)) n + x3 % 4294967296 * 4294967296 ^ n := by rw [e2]; exact cb_L_V rfl ye
      have hg : 0 ≤ g ∧ g ≤ 4294967295 := by omega
      have fg0 : 0 ≤ f * g := Int.mul_nonneg f0 hg.1
      have fg1 : f * g ≤ 4294967295 * 4294967295 := Int.mul_le_mul (by omega) hg.2 hg.1 (by omega)
      have d1 : x3 = x3 % 4294967296 + w * 4294967296 := by omega
      have d2 : x3 * 4294967296 ^ n = x3 % 4294967296 * 4294967296 ^ n + w * (4294967296 ^ n * 4294967296) := by
        rw [Int.mul_comm (4294967296 ^ n) 4294967296, ← Int.mul_assoc, ← Int.add_mul, ← d1]
      have d3 : x3 * 4294967296 ^ n = c * 4294967296 ^ n + f * g * 4294967296 ^ n := by rw [e3, Int.add_mul]
      have := hV f0 f1
      have d4 : f * (cb_V (A (r b 0)) n + g * 4294967296 ^ n) = f * cb_V (A (r b 0)) n + f * g * 4294967296 ^ n := by rw [Int.mul_add, ← Int.mul_assoc]
      rw [hV2, cb_V, ← eg, Int.pow_succ, d4]
      omega
  exact key (z b 1).toNat 0 A 0 0 (by omega) rfl (cb_L_start h.1 hO) (by omega) (fun _ _ => by simp [cb_V])
end CB

-- 18.b08
theorem cn_and {n t q : Nat} (ht : t < 32) (hn : n = 2 ^ t * (2 * q + 1)) (hlt : n < 4294967296) : (4294967295 - n) &&& (n - 1) = 2 ^ t - 1 := by
  have hp : 0 < 2 ^ t := Nat.pow_pos (by decide)
  have h32 : 2 ^ (t + 1) * 2 ^ (31 - t) = 4294967296 := by rw [← Nat.pow_add, show t + 1 + (31 - t) = 32 by omega]
  have e1 : 2 ^ (t + 1) = 2 ^ t * 2 := Nat.pow_succ ..
  have hn2 : n = 2 ^ (t + 1) * q + 2 ^ t := by rw [hn, e1, Nat.mul_add, Nat.mul_one, Nat.mul_assoc]
  have hq : q < 2 ^ (31 - t) := by
    apply Classical.byContradiction
    intro c
    have : 2 ^ (t + 1) * 2 ^ (31 - t) ≤ 2 ^ (t + 1) * q := Nat.mul_le_mul_left _ (by omega)
    omega
  have a1 : n - 1 = 2 ^ (t + 1) * q + (2 ^ t - 1) := by omega
  have a2 : 4294967295 - n = 2 ^ (t + 1) * (2 ^ (31 - t) - (q + 1)) + (2 ^ t - 1) := by
    rw [Nat.mul_sub, h32, Nat.mul_add]
    have : 2 ^ (t + 1) * q + 2 ^ (t + 1) * 1 ≤ 4294967296 := by
      rw [← Nat.mul_add, ← h32]
      exact Nat.mul_le_mul_left _ (by omega)
    omega
  have lo : 2 ^ t - 1 < 2 ^ (t + 1) := by omega
  apply Nat.eq_of_testBit_eq
  intro i
  rw [Nat.testBit_and, a1, a2, Nat.testBit_two_pow_mul_add _ lo, Nat.testBit_two_pow_mul_add _ lo]
  by_cases hi : i < t + 1
  · rw [if_pos hi, if_pos hi, Bool.and_self]
  · have hz : (2 ^ t - 1).testBit i = false := Nat.testBit_lt_two_pow (by
      have : 2 ^ t ≤ 2 ^ i := Nat.pow_le_pow_right (by decide) (by omega)
      omega)
    rw [if_neg hi, if_neg hi, Nat.testBit_two_pow_sub_succ hq, hz]
    cases q.testBit (i - (t + 1)) <;> simp
/-- every number below 2^32 but 0 is an odd one times a power of 2 -/
theorem cn_odd (k : Nat) : ∀ n : Nat, 0 < n → n < 2 ^ k → ∃ t q, t < k ∧ n = 2 ^ t * (2 * q + 1) := by
  induction k with
  | zero => intro n h1 h2; simp at h2; omega
  | succ k ih =>
    intro n h1 h2
    by_cases ho : n % 2 = 1
    · exact ⟨0, n / 2, by omega, by simp; omega⟩
    · obtain ⟨t, q, h3, h4⟩ := ih (n / 2) (by omega) (by rw [Nat.pow_succ] at h2; omega)
      refine ⟨t + 1, q, by omega, ?_⟩
      rw [Nat.pow_succ, Nat.mul_assoc, Nat.mul_comm 2, ← Nat.mul_assoc, ← h4]
      omega
section CB
variable {L : List Nat} {K : Nat → cw_K} {r : Nat → Nat → Nat} {z A : Nat → Nat → Int}
theorem cn_74 {x x1 : Int} {s : Nat} {Q : Int → Prop} (h1 : 1 ≤ s) (h2 : s ≤ 2) (hx : x = 2 ^ s - 1) (hQ : Q (x1 + (s : Int) - 1)) : wp_cj6_74 L K z r A x x1 Q := by
  intro y yr ye
  have e : y = (s : Int) - 1 := by
    have : s = 1 ∨ s = 2 := by omega
    rcases this with rfl | rfl <;> omega
  rw [e, show x1 + ((s : Int) - 1) = x1 + (s : Int) - 1 by omega]
  exact hQ
theorem cn_62 {x x1 : Int} {s : Nat} {Q : Int → Prop} (h1 : 1 ≤ s) (h2 : s ≤ 4) (hx : x = 2 ^ s - 1) (hQ : Q (x1 + (s : Int) - 1)) : wp_cj6_62 L K z r A x x1 Q := by
  have : s = 1 ∨ s = 2 ∨ s = 3 ∨ s = 4 := by omega
  refine ⟨by rcases this with rfl | rfl | rfl | rfl <;> omega, fun c => ?_, fun c w ew y yr ye => ?_⟩
  · exact cn_74 h1 (by rcases this with rfl | rfl | rfl | rfl <;> omega) hx hQ
  · refine cn_74 (s := s - 2) (by rcases this with rfl | rfl | rfl | rfl <;> omega) (by omega) (by rcases this with rfl | rfl | rfl | rfl <;> simp <;> omega) ?_
    rw [show w + ((s - 2 : Nat) : Int) - 1 = x1 + (s : Int) - 1 by rcases this with rfl | rfl | rfl | rfl <;> omega]
    exact hQ
theorem cn_49 {x x1 : Int} {s : Nat} {Q : Int → Prop} (h1 : 1 ≤ s) (h2 : s ≤ 8) (hx : x = 2 ^ s - 1) (hQ : Q (x1 + (s : Int) - 1)) : wp_cj6_49 L K z r A x x1 Q := by
  have : s = 1 ∨ s = 2 ∨ s = 3 ∨ s = 4 ∨ s = 5 ∨ s = 6 ∨ s = 7 ∨ s = 8 := by omega
  refine ⟨by rcases this with rfl | rfl | rfl | rfl | rfl | rfl | rfl | rfl <;> omega, fun c => ?_, fun c w ew y yr ye => ?_⟩
  · exact cn_62 h1 (by rcases this with rfl | rfl | rfl | rfl | rfl | rfl | rfl | rfl <;> omega) hx hQ
  · refine cn_62 (s := s - 4) (by rcases this with rfl | rfl | rfl | rfl | rfl | rfl | rfl | rfl <;> omega) (by omega) (by rcases this with rfl | rfl | rfl | rfl | rfl | rfl | rfl | rfl <;> simp <;> omega) ?_
    rw [show w + ((s - 4 : Nat) : Int) - 1 = x1 + (s : Int) - 1 by rcases this with rfl | rfl | rfl | rfl | rfl | rfl | rfl | rfl <;> omega]
    exact hQ
theorem cn_pow {s t : Nat} (h : s ≤ t) : (2 : Int) ^ s ≤ 2 ^ t := by
  obtain ⟨k, rfl⟩ := Nat.exists_eq_add_of_le h
  rw [Int.pow_add]
  have h1 : (0 : Int) < 2 ^ s := Int.pow_pos (by decide)
  have h2 : (0 : Int) < 2 ^ k := Int.pow_pos (by decide)
  have : (2 : Int) ^ s * 1 ≤ 2 ^ s * 2 ^ k := Int.mul_le_mul_of_nonneg_left (by omega) (by omega)
  omega
/-- the same for the greater steps, by the powers' order -/
theorem cn_sub {x y : Int} {s k : Nat} (hk : k < s) (h32 : s < 32) (hx : x = 2 ^ s - 1) (yr : hz_rI y) (ye : y % 4294967296 = x % 4294967296 / 2 ^ k) : y = 2 ^ (s - k) - 1 := by
  have p1 : (2 : Int) ^ s ≤ 2 ^ 31 := cn_pow (by omega)
  have p0 : (0 : Int) < 2 ^ s := Int.pow_pos (by decide)
  have p2 : (0 : Int) < 2 ^ k := Int.pow_pos (by decide)
  have e : (2 : Int) ^ s = 2 ^ k * 2 ^ (s - k) := by rw [← Int.pow_add, show k + (s - k) = s by omega]
  have q1 : (2 : Int) ^ (s - k) ≤ 2 ^ 31 := cn_pow (by omega)
  have q0 : (0 : Int) < 2 ^ (s - k) := Int.pow_pos (by decide)
  have e31 : (2 : Int) ^ 31 = 2147483648 := by decide
  rw [e31] at p1 q1
  have d : x / 2 ^ k = 2 ^ (s - k) - 1 := by
    rw [hx, e, show (2 : Int) ^ k * 2 ^ (s - k) - 1 = (2 ^ k - 1) + 2 ^ k * (2 ^ (s - k) - 1) by rw [Int.mul_sub]; omega, Int.add_mul_ediv_left _ _ (by omega), Int.ediv_eq_zero_of_lt (by omega) (by omega)]
    omega
  rw [show x % 4294967296 = x by omega, d] at ye
  omega
theorem cn_34 {x x1 : Int} {s : Nat} {Q : Int → Prop} (h1 : 1 ≤ s) (h2 : s ≤ 16) (hx : x = 2 ^ s - 1) (hQ : Q (x1 + (s : Int) - 1)) : wp_cj6_34 L K z r A x x1 Q := by
  have p1 : (2 : Int) ^ s ≤ 2 ^ 16 := cn_pow h2
  have p0 : (0 : Int) < 2 ^ s := Int.pow_pos (by decide)
  refine ⟨by omega, fun c => ?_, fun c w ew y yr ye => ?_⟩
  · refine cn_49 h1 ?_ hx hQ
    apply Classical.byContradiction
    intro q
    have : (2 : Int) ^ 9 ≤ 2 ^ s := cn_pow (by omega)
    omega
  · have h9 : 8 < s := by
      apply Classical.byContradiction
      intro q
      have : (2 : Int) ^ s ≤ 2 ^ 8 := cn_pow (by omega)
      omega
    refine cn_49 (s := s - 8) (by omega) (by omega) (cn_sub (k := 8) h9 (by omega) hx yr ye) ?_
    rw [show w + ((s - 8 : Nat) : Int) - 1 = x1 + (s : Int) - 1 by omega]
    exact hQ
/-- how many zeros a number of 32 bits has at its low end -/
theorem wq_cj6 {a : Int} {Q : Int → Prop} (hQ : ∀ x : Int, (0 ≤ x ∧ x ≤ 32) → (a % 4294967296 = 0 → x = 32) → (¬ a % 4294967296 = 0 → x < 32 ∧ a % 2 ^ (x.toNat + 1) = 2 ^ x.toNat) → Q x) : wp_cj6 L K z r A a Q := by
  intro x xr xe
  by_cases h0 : a % 4294967296 = 0
  · rw [show (-1 - a) % 4294967296 = 4294967295 by omega, show (a - 1) % 4294967296 = 4294967295 by omega] at xe
    have e1 : ((4294967295 : Int).toNat &&& (4294967295 : Int).toNat) = 4294967295 := by decide
    rw [e1] at xe
    have x1 : x = -1 := by omega
    refine ⟨xr, fun c => by omega, fun _ y yr ye => ?_⟩
    rw [show x % 4294967296 = 4294967295 by omega] at ye
    have e2 : ((4294967295 : Int).toNat &&& ((32 : Int) % 4294967296).toNat) = 32 := by decide
    rw [e2] at ye
    have : y = 32 := by omega
    rw [this]
    exact hQ 32 (by omega) (fun _ => rfl) (fun c => absurd h0 c)
  · obtain ⟨n, hn⟩ : ∃ n : Nat, a % 4294967296 = (n : Int) := ⟨(a % 4294967296).toNat, by omega⟩
    obtain ⟨t, q, ht, hq⟩ := cn_odd 32 n (by omega) (by show n < 4294967296; omega)
    rw [show ((-1 - a) % 4294967296).toNat = 4294967295 - n by omega, show ((a - 1) % 4294967296).toNat = n - 1 by omega, cn_and ht hq (by omega)] at xe
    have p1 : (2 : Int) ^ t ≤ 2 ^ 31 := cn_pow (by omega)
    have p0 : (0 : Int) < 2 ^ t := Int.pow_pos (by decide)
    have e31 : (2 : Int) ^ 31 = 2147483648 := by decide
    rw [e31] at p1
    have pn : ((2 ^ t - 1 : Nat) : Int) = 2 ^ t - 1 := by
      have : 0 < 2 ^ t := Nat.pow_pos (by decide)
      rw [Int.natCast_sub (by omega), Int.natCast_pow]
      rfl
    rw [pn] at xe
    have x1 : x = 2 ^ t - 1 := by omega
    have fin : Q (t : Int) := by
      refine hQ t (by omega) (fun c => absurd c h0) (fun _ => ⟨by omega, ?_⟩)
      rw [show ((t : Int)).toNat = t by omega]
      have m1 : a % 2 ^ (t + 1) = (n : Int) % 2 ^ (t + 1) := by
        rw [← hn]
        refine (Int.emod_emod_of_dvd _ ⟨2 ^ (31 - t), ?_⟩).symm
        rw [← Int.pow_add, show t + 1 + (31 - t) = 32 by omega]
        decide
      rw [m1, hq]
      have m2 : ((2 ^ t * (2 * q + 1) : Nat) : Int) = 2 ^ t + 2 ^ (t + 1) * (q : Int) := by
        rw [Int.natCast_mul, Int.natCast_pow, Int.pow_succ]
        show (2 : Int) ^ t * _ = _
        rw [Int.natCast_add, Int.natCast_mul]
        grind
      rw [m2, Int.add_mul_emod_self_left, Int.emod_eq_of_lt (by omega) (by rw [Int.pow_succ]; omega)]
    refine ⟨xr, fun c => ⟨xr, fun c2 => ?_, fun c2 w ew y yr ye => ?_⟩, fun c y yr ye => ?_⟩
    · have h1 : 1 ≤ t := by
        apply Classical.byContradiction
        intro q2
        rw [show t = 0 by omega] at x1
        omega
      refine cn_34 h1 ?_ x1 (by rw [show (1 : Int) + (t : Int) - 1 = t by omega]; exact fin)
      apply Classical.byContradiction
      intro q2
      have : (2 : Int) ^ 17 ≤ 2 ^ t := cn_pow (by omega)
      omega
    · have h9 : 16 < t := by
        apply Classical.byContradiction
        intro q2
        have : (2 : Int) ^ t ≤ 2 ^ 16 := cn_pow (by omega)
        omega
      refine cn_34 (s := t - 16) (by omega) (by omega) (cn_sub (k := 16) h9 ht x1 yr ye) ?_
      rw [show w + ((t - 16 : Nat) : Int) - 1 = (t : Int) by omega]
      exact fin
    · have t0 : t = 0 := by
        apply Classical.byContradiction
        intro q2
        have : (2 : Int) ^ 1 ≤ 2 ^ t := cn_pow (by omega)
        omega
      subst t0
      have x0 : x = 0 := by omega
      rw [x0] at ye
      have e2 : (((0 : Int) % 4294967296).toNat &&& ((32 : Int) % 4294967296).toNat) = 0 := by decide
      rw [e2] at ye
      have : y = 0 := by omega
      rw [this]
      exact fin
end CB

-- 18.b09
theorem cb_sh {M N g g' : Int} (hM : 0 < M) (hN : 0 < N) (hMN : M * N = 4294967296) (hg : 0 ≤ g ∧ g < 4294967296) (hg' : 0 ≤ g' ∧ g' < 4294967296) : M * ((g + g' * 4294967296) / M % 4294967296) = g - g % M + g' % M * 4294967296 := by
  have q1 := Int.mul_ediv_add_emod g M
  have q2 := Int.mul_ediv_add_emod g' M
  have r1 := Int.emod_nonneg g (show M ≠ 0 by omega)
  have r2 := Int.emod_lt_of_pos g hM
  have s1 := Int.emod_nonneg g' (show M ≠ 0 by omega)
  have s2 := Int.emod_lt_of_pos g' hM
  have e1 : (g + g' * 4294967296) / M = g / M + g' * N := by
    rw [← hMN, show g' * (M * N) = M * (g' * N) by rw [← Int.mul_assoc, ← Int.mul_assoc, Int.mul_comm g' M], Int.add_mul_ediv_left _ _ (by omega)]
  have e2 : g / M + g' * N = (g / M + g' % M * N) + 4294967296 * (g' / M) := by
    rw [← hMN, Int.add_assoc, show g' % M * N + M * N * (g' / M) = (M * (g' / M) + g' % M) * N by rw [Int.add_mul, Int.mul_right_comm, Int.add_comm], q2]
  have h1 : g / M < N := by
    apply Int.ediv_lt_of_lt_mul hM
    rw [Int.mul_comm, hMN]
    omega
  have h0 : 0 ≤ g / M := Int.ediv_nonneg hg.1 (by omega)
  have h2 : g' % M * N ≤ (M - 1) * N := Int.mul_le_mul_of_nonneg_right (by omega) (by omega)
  have h3 : 0 ≤ g' % M * N := Int.mul_nonneg s1 (by omega)
  rw [Int.sub_mul, hMN] at h2
  rw [e1, e2, Int.add_mul_emod_self_left, Int.emod_eq_of_lt (by omega) (by omega), Int.mul_add, show M * (g' % M * N) = g' % M * 4294967296 by rw [← hMN, Int.mul_left_comm]]
  omega
theorem cb_pow32 {p : Nat} (hp : p < 32) : (2 : Int) ^ p * 2 ^ (32 - p) = 4294967296 := by
  rw [← Int.pow_add, show p + (32 - p) = 32 by omega]
  decide
section CB
variable {L : List Nat} {K : Nat → cw_K} {r : Nat → Nat → Nat} {z A : Nat → Nat → Int} {b : Nat}
theorem wq_c0_lowZeros (h : cb_all L K r z A) (hO : cw_O L K 0 b) {Q : Int → Prop} (hQ : ∀ s : Nat, s < 2048 → (cb_u r z A b = 0 → s = 0) → (∃ m : Int, ¬ cb_u r z A b = 0 → cb_u r z A b = m * 2 ^ s ∧ m % 2 = 1) → Q s) : wp_c0_lowZeros L K z r A b Q := by
  have hn := cb_n h.1 hO
  obtain ⟨⟨b1, b2⟩, b3, b4, b5⟩ := h.2 b hO
  have br := (h.1.1 b hO).2.2
  have e0 := cb_u0 (h.2 b hO) h.1 hO
  intro P hP
  have key : ∀ (k n : Nat) (x : Int), n + k = (z b 1).toNat → x = (n : Int) → (∀ j, j < n → A (r b 0) j = 0) → P x := by
    intro k
    induction k with
    | zero =>
      intro n x en ex h0
      have en : n = (z b 1).toNat := by omega
      subst en
      refine hP x ⟨hO, by omega, by omega, fun _ => ⟨hO, by omega, by omega, fun _ => ?_, fun q => by omega⟩, fun q => by omega⟩
      have u0 : cb_u r z A b = 0 := cb_V_zero (fun j hj => by rw [h0 j hj]; rfl)
      exact hQ 0 (by omega) (fun _ => rfl) ⟨0, fun q => absurd u0 q⟩
    | succ k ih =>
      intro n x en ex h0
      subst ex
      have e9 : ((n : Int)).toNat = n := by omega
      have rr := br n
      refine hP n ⟨hO, by omega, by omega, fun q => by omega, fun _ => ⟨hn.1, by omega, by rw [e9]; exact rr, fun q => ⟨hO, by omega, by omega, fun q2 => by omega, fun q2 => ⟨hn.1, by omega, wq_cj6 (fun t t1 t2 t3 => ?_)⟩⟩, fun q x1 e1 => ?_⟩⟩
      · rw [e9] at q t2 t3
        have nz : ¬ A (r b 0) n % 4294967296 = 0 := by omega
        obtain ⟨t4, t5⟩ := t3 nz
        show Q _
        obtain ⟨s, hs⟩ : ∃ s : Nat, t = (s : Int) := ⟨t.toNat, by omega⟩
        subst hs
        rw [show 32 * (n : Int) + (s : Int) = ((32 * n + s : Nat) : Int) by omega]
        rw [show ((s : Int)).toNat = s by omega] at t5
        have hu : cb_u r z A b = 4294967296 ^ n * cb_V (fun i => A (r b 0) (n + i)) ((z b 1).toNat - n) := by
          unfold cb_u
          rw [show (z b 1).toNat = n + ((z b 1).toNat - n) by omega, cb_V_add, cb_V_zero (fun j hj => by rw [h0 j hj]; rfl), show n + ((z b 1).toNat - n) - n = (z b 1).toNat - n by omega]
          omega
        have hu0 : ¬ cb_u r z A b = 0 := fun q3 => by have := e0.mpr q3; omega
        refine hQ (32 * n + s) (by omega) (fun q3 => absurd q3 hu0) ?_
        have e1 : (z b 1).toNat - n = ((z b 1).toNat - n - 1) + 1 := by omega
        rw [e1, cb_V_low] at hu
        have hd : A (r b 0) (n + 0) % 4294967296 = 2 ^ s * (2 * (A (r b 0) n % 4294967296 / 2 ^ (s + 1)) + 1) := by
          have c1 : A (r b 0) n % 4294967296 % 2 ^ (s + 1) = 2 ^ s := by
            rw [← t5]
            apply Int.emod_emod_of_dvd
            have := cb_pow32 (p := s) (by omega)
            refine ⟨2 ^ (31 - s), ?_⟩
            rw [← Int.pow_add, show s + 1 + (31 - s) = 32 by omega]
            decide
          have c2 := Int.mul_ediv_add_emod (A (r b 0) n % 4294967296) (2 ^ (s + 1))
          rw [c1] at c2
          show A (r b 0) n % 4294967296 = _
          rw [Int.mul_add, Int.mul_one, ← Int.mul_assoc, ← Int.pow_succ, c2]
        have hB : (4294967296 : Int) = 2 ^ s * (2 * 2 ^ (31 - s)) := by
          rw [show (2 : Int) * 2 ^ (31 - s) = 2 ^ (32 - s) by rw [show 32 - s = (31 - s) + 1 by omega, Int.pow_succ, Int.mul_comm]]
          exact (cb_pow32 (by omega)).symm
        obtain ⟨X, hX⟩ : ∃ X : Int, X = cb_V (fun i => A (r b 0) (n + (i + 1))) ((z b 1).toNat - n - 1) := ⟨_, rfl⟩
        rw [← hX] at hu
        refine ⟨2 * (A (r b 0) n % 4294967296 / 2 ^ (s + 1)) + 1 + 2 * 2 ^ (31 - s) * X, fun _ => ⟨?_, ?_⟩⟩
        · rw [hu, hd]
          have e32 : (4294967296 : Int) ^ n = 2 ^ (32 * n) := by rw [Int.pow_mul]; rfl
          rw [e32, Int.pow_add 2 (32 * n) s]
          rw [show (4294967296 : Int) * X = 2 ^ s * (2 * 2 ^ (31 - s) * X) by rw [← Int.mul_assoc, ← hB], ← Int.mul_add]
          rw [Int.mul_comm _ (2 ^ (32 * n) * 2 ^ s)]
          exact (Int.mul_assoc _ _ _).symm
        · rw [show (2 : Int) * 2 ^ (31 - s) * X = 2 * (2 ^ (31 - s) * X) by rw [Int.mul_assoc]]
          omega
      · rw [e9] at q
        exact ih (n + 1) x1 (by omega) (by omega) (fun j hj => by
          by_cases hjn : j = n
          · rw [hjn]; exact q
          · exact h0 j (by omega))
  exact key (z b 1).toNat 0 0 (by omega) rfl (fun j hj => by omega)
theorem wq_c0_shiftDown {s : Nat} (h : cb_all L K r z A) (hO : cw_O L K 0 b) (hs : s < 2147483648) {Q : (Nat → Nat → Int) → (Nat → Nat → Int) → Prop} (hQ : ∀ z' A' : Nat → Nat → Int, cb_all L K r z' A' → cb_Y r b z A z' A' → cb_u r z' A' b = cb_u r z A b / 2 ^ s → z' b 1 ≤ z b 1 → (0 < z' b 1 → z' b 2 = z b 2) → Q z' A') : wp_c0_shiftDown L K z r A b s Q := by
  have hn := cb_n h.1 hO
  obtain ⟨⟨b1, b2⟩, b3, b4, b5⟩ := h.2 b hO
  refine ⟨by omega, fun w ew p ep => ⟨by omega, fun q => ⟨hO, by omega, fun x4 q4 => ?_⟩, fun q => ?_⟩⟩
  · obtain ⟨W, hW⟩ : ∃ W : Nat, w = (W : Int) := ⟨w.toNat, by omega⟩
    obtain ⟨p', hp⟩ : ∃ p' : Nat, p = (p' : Int) := ⟨p.toNat, by omega⟩
    obtain ⟨N, hN⟩ : ∃ N : Nat, x4 = (N : Int) := ⟨x4.toNat, by omega⟩
    subst hW hp hN
    have p32 : p' < 32 := by omega
    have es : s = 32 * W + p' := by omega
    have eN : N = (z b 1).toNat - W := by omega
    clear q4
    obtain ⟨M, hM⟩ : ∃ M : Int, M = 2 ^ p' := ⟨_, rfl⟩
    have M0 : 0 < M := by rw [hM]; exact Int.pow_pos (by decide)
    have hMN : M * 2 ^ (32 - p') = 4294967296 := by rw [hM]; exact cb_pow32 p32
    have N0 : (0 : Int) < 2 ^ (32 - p') := Int.pow_pos (by decide)
    -- the digits that stay, and 0 behind them
    obtain ⟨g, hg⟩ : ∃ g : Nat → Int, g = fun j => if W + j < (z b 1).toNat then A (r b 0) (W + j) % 4294967296 else 0 := ⟨_, rfl⟩
    have gr : ∀ j, 0 ≤ g j ∧ g j < 4294967296 := by
      intro j
      have e : g j = if W + j < (z b 1).toNat then A (r b 0) (W + j) % 4294967296 else 0 := by rw [hg]
      rw [e]
      split <;> omega
    have gV : cb_V g N = cb_u r z A b / 4294967296 ^ W := by
      unfold cb_u
      by_cases hw : W ≤ (z b 1).toNat
      · rw [show (z b 1).toNat = W + N by omega, cb_V_add, Int.add_comm, Int.mul_comm, Int.add_comm, Int.add_mul_ediv_right _ _ (by have := cb_p W; omega)]
        have rg := cb_V_range (A (r b 0)) W
        rw [Int.ediv_eq_zero_of_lt rg.1 rg.2, Int.zero_add]
        refine cb_V_congr (fun j hj => ?_)
        rw [hg]
        show (if _ then _ else _) % _ = _
        rw [if_pos (by omega)]
        omega
      · rw [show N = 0 by omega]
        have rg := cb_V_range (A (r b 0)) (z b 1).toNat
        have := cb_pow_le (m := (z b 1).toNat) (n := W) (by omega)
        rw [Int.ediv_eq_zero_of_lt rg.1 (by omega)]
        rfl
    intro P hP
    have key : ∀ (k n : Nat) (A1 : Nat → Nat → Int) (x : Int), n + k = N → x = (n : Int) → cb_L A A1 (r b 0) n → M * cb_V (A1 (r b 0)) n + g 0 % M = cb_V g n + g n % M * 4294967296 ^ n → P A1 x := by
      intro k
      induction k with
      | zero =>
        intro n A1 x en ex hL hV
        have en : n = N := by omega
        subst en
        have hS1 := cb_L_S h.1 hO hL
        refine hP A1 x ⟨by omega, by omega, fun _ => ⟨hO, ?_⟩, fun q => by omega⟩
        refine wq_c0_trim hS1 hO (by omega) (by omega) b3 (fun z2 hz hk hu hle hsg => ?_)
        have hY : cb_Y r b z A z2 A1 := ⟨hz, hL.1⟩
        refine hQ z2 A1 (cb_all_of h hO hY hS1 hk) hY ?_ (by omega) hsg
        have gn : g n = 0 := by
          rw [hg]
          show (if _ then _ else _) = _
          rw [if_neg (by omega)]
        rw [gn] at hV
        simp at hV
        have r1 := Int.emod_nonneg (g 0) (show M ≠ 0 by omega)
        have r2 := Int.emod_lt_of_pos (g 0) M0
        rw [hu, show ((n : Int)).toNat = n by omega]
        have e1 : cb_u r z A b / 2 ^ s = cb_V g n / M := by
          rw [es, Int.pow_add, show (2 : Int) ^ (32 * W) = 4294967296 ^ W by rw [Int.pow_mul]; rfl, ← Int.ediv_ediv_of_nonneg (by have := cb_p W; omega), ← gV, hM]
        rw [e1, ← hV, Int.add_comm, Int.add_mul_ediv_left _ _ (by omega), Int.ediv_eq_zero_of_lt r1 r2, Int.zero_add]
      | succ k ih =>
        intro n A1 x en ex hL hV
        subst ex
        have hS1 := cb_L_S h.1 hO hL
        have gn : ∀ j, n ≤ j → ∀ v : Int, ((j + W : Nat) < (z b 1).toNat → v = A1 (r b 0) (j + W) % 4294967296) → (¬ (j + W : Nat) < (z b 1).toNat → v = 0) → v = g j := by
          intro j hj v v1 v2
          rw [hg]
          show v = if _ then _ else _
          by_cases hc : W + j < (z b 1).toNat
          · rw [if_pos hc, v1 (by omega), hL.2.1 _ (by omega), Nat.add_comm]
          · rw [if_neg hc, v2 (by omega)]
        refine hP A1 n ⟨by omega, by omega, fun q => by omega, fun _ => ⟨hO, ?_⟩⟩
        refine wq_c0_digit hS1 ⟨b1, b2⟩ hO (by omega) (by omega) (fun d0 _ d1 d2 => ?_)
        refine wq_c0_digit hS1 ⟨b1, b2⟩ hO (by omega) (by omega) (fun f0 _ f1 f2 => ?_)
        have ed : d0 = g n := gn n (Nat.le_refl _) d0 (fun c => by rw [d1 (by omega), show ((n : Int) + (W : Int)).toNat = n + W by omega]) (fun c => d2 (by omega))
        have ef : f0 = g (n + 1) := gn (n + 1) (by omega) f0 (fun c => by rw [f1 (by omega), show ((n : Int) + (W : Int) + 1).toNat = n + 1 + W by omega]) (fun c => f2 (by omega))
        intro x8 x8r x8e x9 x9r x9e y yr ye w9 w9r w9e
        have g1 := gr n
        have g2 := gr (n + 1)
        rw [ed] at x9e
        rw [ef] at x8e
        have x9e' := x9e (Or.inl ⟨g1.1, g1.2, by omega⟩)
        have x9f : x9 % 18446744073709551616 = g n + g (n + 1) * 4294967296 := by omega
        have ye' := ye (by omega)
        rw [x9f, show ((p' : Int)).toNat = p' by omega, ← hM] at ye'
        have hsh := cb_sh M0 N0 hMN g1 g2
        have nn : 0 ≤ (g n + g (n + 1) * 4294967296) / M := Int.ediv_nonneg (by omega) (by omega)
        refine ⟨hn.1, by omega, fun A2 e2 x5 e5 => ?_⟩
        refine ih (n + 1) A2 x5 (by omega) (by omega) (by rw [e2]; exact cb_L_put hL rfl w9r) ?_
        obtain ⟨D, hD⟩ : ∃ D : Int, D = (g n + g (n + 1) * 4294967296) / M := ⟨_, rfl⟩
        rw [← hD] at ye' hsh nn
        have hV2 : cb_V (A2 (r b 0)) (n + 1) = cb_V (A1 (r b 0)) n + D % 4294967296 * 4294967296 ^ n := by
          rw [e2]
          exact cb_L_V rfl (by omega)
        have f1 : M * (D % 4294967296 * 4294967296 ^ n) = (g n - g n % M + g (n + 1) % M * 4294967296) * 4294967296 ^ n := by rw [← Int.mul_assoc, hsh]
        rw [Int.add_mul, Int.sub_mul] at f1
        have f2 : g (n + 1) % M * 4294967296 * 4294967296 ^ n = g (n + 1) % M * 4294967296 ^ (n + 1) := by rw [Int.pow_succ, Int.mul_assoc, Int.mul_comm 4294967296 (4294967296 ^ n)]
        have f3 : cb_V g (n + 1) = cb_V g n + g n * 4294967296 ^ n := by rw [cb_V, show g n % 4294967296 = g n by omega]
        rw [hV2, Int.mul_add, f1, f3, f2]
        omega
    exact key N 0 A 0 (by omega) rfl (cb_L_start h.1 hO) (by simp [cb_V])
  · have : s = 0 := by omega
    subst this
    exact hQ z A h (cb_Y_refl _ _ _ _) (by simp) (by omega) (fun _ => rfl)
theorem wq_c0_divideBySmall {v : Int} (h : cb_all L K r z A) (hO : cw_O L K 0 b) (hv : 0 < v ∧ v < 2147483648) {Q : Int → (Nat → Nat → Int) → (Nat → Nat → Int) → Prop} (hQ : ∀ (x : Int) (z' A' : Nat → Nat → Int), cb_all L K r z' A' → cb_Y r b z A z' A' → (0 ≤ x ∧ x < v) → z' b 1 ≤ z b 1 → Q x z' A') : wp_c0_divideBySmall L K z r A b v Q := by
  have hn := cb_n h.1 hO
  obtain ⟨⟨b1, b2⟩, b3, b4, b5⟩ := h.2 b hO
  refine ⟨hO, fun x e => ?_⟩
  intro P hP
  have key : ∀ (n : Nat) (A1 : Nat → Nat → Int) (y x : Int), (n : Int) ≤ z b 1 → x = (n : Int) - 1 → cb_S L K r A1 → (∀ a, a ≠ r b 0 → A1 a = A a) → (0 ≤ y ∧ y < v) → P A1 y x := by
    intro n
    induction n with
    | zero =>
      intro A1 y x en ex hS1 hA1 hy
      refine hP A1 y x ⟨by omega, fun _ => ⟨hO, ?_⟩, fun q => by omega⟩
      refine wq_c0_trim hS1 hO b1 b2 b3 (fun z2 hz hk hu hle hsg w wr we => ?_)
      have hY : cb_Y r b z A z2 A1 := ⟨hz, hA1⟩
      exact hQ w z2 A1 (cb_all_of h hO hY hS1 hk) hY (by omega) hle
    | succ n ih =>
      intro A1 y x en ex hS1 hA1 hy
      refine hP A1 y x ⟨by omega, fun q => by omega, fun _ => ⟨by omega, fun q => by omega, fun _ x7 x7r x7e => ⟨hO, ?_⟩⟩⟩
      refine wq_c0_digit hS1 ⟨b1, b2⟩ hO (by omega) (by omega) (fun d d0 _ _ w wr we => ?_)
      have we' := we (Or.inr ⟨d0.1, d0.2, by omega⟩)
      have w0 : 0 ≤ w := by omega
      refine ⟨by omega, by omega, wr, by omega, fun t tr te => ⟨hn.1, by omega, fun A2 e2 => ⟨by omega, by omega, wr, by omega, fun y2 ey x2 ex2 => ?_⟩⟩⟩
      refine ih A2 y2 x2 (by omega) (by omega) (by rw [e2]; exact cb_S_put hS1 hO tr) (fun a ha => by rw [e2, hz_s_a ha]; exact hA1 a ha) ?_
      rw [ey, Int.tmod_eq_emod_of_nonneg w0]
      exact ⟨Int.emod_nonneg _ (by omega), Int.emod_lt_of_pos _ hv.1⟩
  exact key (z b 1).toNat A 0 x (by omega) (by omega) h.1 (fun _ _ => rfl) (by omega)
end CB

-- 18.b10
section CB
variable {L : List Nat} {K : Nat → cw_K} {r : Nat → Nat → Nat} {z A : Nat → Nat → Int} {b : Nat}
theorem wq_c1_takeMultiple {D : Nat} (hS : cb_S L K r A) (hD : cw_O L K 1 D) (ho : cw_O L K 0 (r D 0)) (hko : 0 ≤ z (r D 0) 1 ∧ z (r D 0) 1 ≤ (cw_n K (r (r D 0) 0) : Int)) (hO : cw_O L K 0 b) (hne : r D 0 ≠ b) {f : Int} (hf : 0 ≤ f ∧ f < 4294967296) {sh u : Nat} (hsu : sh ≤ u) (hu : u ≤ cw_n K (r b 0)) {Q : (Nat → Nat → Int) → Prop} (hQ : ∀ A' : Nat → Nat → Int, cb_S L K r A' → (∀ a, a ≠ r b 0 → A' a = A a) → (∀ j, j < sh → A' (r b 0) j = A (r b 0) j) → (∃ t : Int, cb_V (A' (r b 0)) u + f * cb_V (A (r (r D 0) 0)) (z (r D 0) 1).toNat * 4294967296 ^ sh = cb_V (A (r b 0)) u + t * 4294967296 ^ u) → Q A') : wp_c1_takeMultiple L K z r A D (r b 0) f sh u Q := by
  have hn := cb_n hS hO
  have on := cb_n hS ho
  have orr := (hS.1 _ ho).2.2
  have ne : r (r D 0) 0 ≠ r b 0 := cb_ne hS hO ho hne
  refine ⟨hD, ho, by omega, by omega, fun x8 e8 => ?_⟩
  obtain ⟨e, he⟩ : ∃ e : Nat, x8 = (sh : Int) + (e : Int) := ⟨(x8 - sh).toNat, by omega⟩
  have e1 : (e : Int) ≤ z (r D 0) 1 := by omega
  have e2 : sh + e ≤ u := by omega
  have e3 : (e : Int) = z (r D 0) 1 ∨ sh + e = u := by omega
  clear e8
  subst he
  -- what is taken
  have tot : ∃ t : Int, f * cb_V (A (r (r D 0) 0)) (z (r D 0) 1).toNat * 4294967296 ^ sh = f * cb_V (A (r (r D 0) 0)) e * 4294967296 ^ sh + t * 4294967296 ^ u := by
    rcases e3 with q | q
    · refine ⟨0, ?_⟩
      rw [show (z (r D 0) 1).toNat = e by omega]
      omega
    · refine ⟨f * cb_V (fun i => A (r (r D 0) 0) (e + i)) ((z (r D 0) 1).toNat - e), ?_⟩
      rw [show (z (r D 0) 1).toNat = e + ((z (r D 0) 1).toNat - e) by omega, cb_V_add, show e + ((z (r D 0) 1).toNat - e) - e = (z (r D 0) 1).toNat - e by omega]
      rw [Int.mul_add, Int.add_mul, ← q, Int.pow_add]
      congr 1
      rw [Int.mul_comm (4294967296 ^ e) (cb_V _ _), ← Int.mul_assoc, Int.mul_assoc, Int.mul_comm (4294967296 ^ e)]
  obtain ⟨t0, ht0⟩ := tot
  obtain ⟨F, hF⟩ : ∃ F : Int, F = f * cb_V (A (r (r D 0) 0)) e * 4294967296 ^ sh := ⟨_, rfl⟩
  rw [← hF] at ht0
  have two : ∀ (A1 : Nat → Nat → Int) (c : Int), cb_L A A1 (r b 0) (sh + e) → (∀ j, j < sh → A1 (r b 0) j = A (r b 0) j) → (0 ≤ c ∧ c < 4294967296) → cb_V (A1 (r b 0)) (sh + e) + F = cb_V (A (r b 0)) (sh + e) + c * 4294967296 ^ (sh + e) → wp_c1_takeMultiple_112 L K z r A1 (r b 0) u c ((sh : Int) + (e : Int)) Q := by
    intro A1 c hL hlo hc hV
    intro P hP
    have key : ∀ (k n : Nat) (A1 : Nat → Nat → Int) (c x : Int), n + k = u → sh ≤ n → x = (n : Int) → cb_L A A1 (r b 0) n → (∀ j, j < sh → A1 (r b 0) j = A (r b 0) j) → (0 ≤ c ∧ c < 4294967296) → cb_V (A1 (r b 0)) n + F = cb_V (A (r b 0)) n + c * 4294967296 ^ n → P A1 c x := by
      intro k
      induction k with
      | zero =>
        intro n A1 c x en hn1 ex hL hlo hc hV
        have en : n = u := by omega
        subst en
        refine hP A1 c x ⟨by omega, by omega, fun _ => ?_, fun q => by omega⟩
        refine hQ A1 (cb_L_S hS hO hL) hL.1 hlo ⟨c + t0, ?_⟩
        rw [ht0, Int.add_mul]
        omega
      | succ k ih =>
        intro n A1 c x en hn1 ex hL hlo hc hV
        subst ex
        have e9 : ((n : Int)).toNat = n := by omega
        have rr := hL.2.2 n
        have rd := hL.2.1 n (Nat.le_refl _)
        have step : ∀ (g x10 y : Int) (A2 : Nat → Nat → Int) (t : Int), g = A (r b 0) n % 4294967296 → x10 = g - c → hz_rI y → y % 4294967296 = x10 % 4294967296 → A2 = hz_s A1 (r b 0) n y → ((0 ≤ x10 ∧ t = 0) ∨ (x10 < 0 ∧ t = 1)) → ∀ x8 : Int, x8 = (n : Int) + 1 → P A2 t x8 := by
          intro g x5 y A2 t eg e5 yr ye ea ht x8 e8
          refine ih (n + 1) A2 t x8 (by omega) (by omega) (by omega) (by rw [ea]; exact cb_L_put hL rfl yr) (fun j hj => by rw [ea, hz_s_i (by omega)]; exact hlo j hj) (by omega) ?_
          have hV2 : cb_V (A2 (r b 0)) (n + 1) = cb_V (A1 (r b 0)) n + x5 % 4294967296 * 4294967296 ^ n := by rw [ea]; exact cb_L_V rfl ye
          have d1 : x5 = x5 % 4294967296 - t * 4294967296 := by omega
          rw [hV2, cb_V, ← eg, Int.pow_succ]
          have d2 : x5 * 4294967296 ^ n = x5 % 4294967296 * 4294967296 ^ n - t * (4294967296 ^ n * 4294967296) := by
            rw [Int.mul_comm (4294967296 ^ n) 4294967296, ← Int.mul_assoc, ← Int.sub_mul, ← d1]
          have d3 : x5 * 4294967296 ^ n = g * 4294967296 ^ n - c * 4294967296 ^ n := by rw [e5, Int.sub_mul]
          omega
        refine hP A1 c n ⟨by omega, by omega, fun q => by omega, fun _ => ⟨by omega, fun q => ?_, fun q => ⟨hn.1, by omega, by rw [e9]; exact rr, fun g eg x10 e10 y yr ye => ⟨by omega, fun A2 ea => ⟨by omega, fun q2 x8 e8 => ?_, fun q2 x8 e8 => ?_⟩⟩⟩⟩⟩
        · subst q
          refine hQ A1 (cb_L_S hS hO hL) hL.1 hlo ⟨t0, ?_⟩
          have s1 : cb_V (A1 (r b 0)) u = cb_V (A1 (r b 0)) n + 4294967296 ^ n * cb_V (fun i => A1 (r b 0) (n + i)) (u - n) := by rw [← cb_V_add, show n + (u - n) = u by omega]
          have s2 : cb_V (A (r b 0)) u = cb_V (A (r b 0)) n + 4294967296 ^ n * cb_V (fun i => A (r b 0) (n + i)) (u - n) := by rw [← cb_V_add, show n + (u - n) = u by omega]
          have s3 : cb_V (fun i => A1 (r b 0) (n + i)) (u - n) = cb_V (fun i => A (r b 0) (n + i)) (u - n) := cb_V_congr (fun i _ => by
            show A1 (r b 0) (n + i) % _ = A (r b 0) (n + i) % _
            rw [hL.2.1 (n + i) (by omega)])
          rw [s1, s2, s3, ht0]
          omega
        · rw [e9, rd] at eg
          exact step g x10 y A2 0 eg e10 yr ye ea (by omega) x8 e8
        · rw [e9, rd] at eg
          exact step g x10 y A2 1 eg e10 yr ye ea (by omega) x8 e8
    exact key (u - (sh + e)) (sh + e) A1 c ((sh : Int) + (e : Int)) (by omega) (by omega) (by omega) hL hlo hc hV
  intro P hP
  have key : ∀ (k n : Nat) (A1 : Nat → Nat → Int) (c x : Int), n + k = e → x = (sh : Int) + (n : Int) → cb_L A A1 (r b 0) (sh + n) → (∀ j, j < sh → A1 (r b 0) j = A (r b 0) j) → (0 ≤ c ∧ c < 4294967296) → cb_V (A1 (r b 0)) (sh + n) + f * cb_V (A (r (r D 0) 0)) n * 4294967296 ^ sh = cb_V (A (r b 0)) (sh + n) + c * 4294967296 ^ (sh + n) → P A1 c x := by
    intro k
    induction k with
    | zero =>
      intro n A1 c x en ex hL hlo hc hV
      have en : n = e := by omega
      subst en
      refine hP A1 c x ⟨by omega, by omega, fun _ => ?_, fun q => by omega⟩
      exact two A1 c hL hlo hc (by rw [hF]; exact hV)
    | succ k ih =>
      intro n A1 c x en ex hL hlo hc hV
      have rd : A1 (r (r D 0) 0) n = A (r (r D 0) 0) n := by rw [hL.1 _ ne]
      have rb := hL.2.1 (sh + n) (Nat.le_refl _)
      have rr := orr n
      have rrb := hL.2.2 (sh + n)
      have i1 : (x - (sh : Int)).toNat = n := by omega
      have i2 : x.toNat = sh + n := by omega
      have step : ∀ (g part o low rest y : Int) (A2 : Nat → Nat → Int) (hi t : Int), g = A (r (r D 0) 0) n % 4294967296 → part = f * g + c → o = A (r b 0) (sh + n) % 4294967296 → low = part % 4294967296 → rest = o - low → hz_rI y → y % 4294967296 = rest % 4294967296 → A2 = hz_s A1 (r b 0) x y → hi = part % 18446744073709551616 / 4294967296 → ((0 ≤ rest ∧ t = 0) ∨ (rest < 0 ∧ t = 1)) → hz_rI t ∧ ∀ x6 : Int, x6 = hi + t → ∀ x9 : Int, x9 = x + 1 → P A2 x6 x9 := by
        intro g part o low rest y A2 hi t eg ep eo el er yr ye ea eh ht
        refine ⟨by omega, fun x6 e6 x9 e9 => ?_⟩
        have hg : 0 ≤ g ∧ g ≤ 4294967295 := by omega
        have fg0 : 0 ≤ f * g := Int.mul_nonneg hf.1 hg.1
        have fg1 : f * g ≤ 4294967295 * 4294967295 := Int.mul_le_mul (by omega) hg.2 hg.1 (by omega)
        refine ih (n + 1) A2 x6 x9 (by omega) (by omega) (by rw [ea]; exact cb_L_put hL (by omega) yr) (fun j hj => by rw [ea, hz_s_i (by omega)]; exact hlo j hj) (by omega) ?_
        have hV2 : cb_V (A2 (r b 0)) (sh + n + 1) = cb_V (A1 (r b 0)) (sh + n) + rest % 4294967296 * 4294967296 ^ (sh + n) := by rw [ea]; exact cb_L_V (by omega) ye
        have d1 : rest % 4294967296 + f * g = o - c + x6 * 4294967296 := by omega
        have d2 : rest % 4294967296 * 4294967296 ^ (sh + n) + f * g * 4294967296 ^ (sh + n) = o * 4294967296 ^ (sh + n) - c * 4294967296 ^ (sh + n) + x6 * (4294967296 ^ (sh + n) * 4294967296) := by
          rw [Int.mul_comm (4294967296 ^ (sh + n)) 4294967296, ← Int.mul_assoc, ← Int.sub_mul, ← Int.add_mul, ← Int.add_mul, d1]
        have d4 : f * (cb_V (A (r (r D 0) 0)) n + g * 4294967296 ^ n) * 4294967296 ^ sh = f * cb_V (A (r (r D 0) 0)) n * 4294967296 ^ sh + f * g * 4294967296 ^ (sh + n) := by
          rw [Int.mul_add, Int.add_mul, Int.pow_add]
          congr 1
          rw [← Int.mul_assoc, Int.mul_assoc, Int.mul_comm (4294967296 ^ n)]
        rw [show sh + (n + 1) = sh + n + 1 by omega, hV2, cb_V, cb_V, ← eg, ← eo, Int.pow_succ, d4]
        omega
      refine hP A1 c x ⟨by omega, by omega, fun q => by omega, fun _ => ⟨hD, ho, on.1, by omega, by rw [i1, rd]; exact rr, fun g eg part ep => ⟨hn.1, by omega, by rw [i2]; exact rrb, fun o eo low el rest er y yr ye => ⟨by omega, fun A2 ea hi eh => ⟨by omega, fun q => ?_, fun q => ?_⟩⟩⟩⟩⟩
      · rw [i1, rd] at eg
        rw [i2, rb] at eo
        exact step g part o low rest y A2 hi 0 eg ep eo el er yr ye ea eh (by omega)
      · rw [i1, rd] at eg
        rw [i2, rb] at eo
        exact step g part o low rest y A2 hi 1 eg ep eo el er yr ye ea eh (by omega)
  exact key e 0 A 0 sh (by omega) (by omega) ⟨fun _ _ => rfl, fun _ _ => rfl, (hS.1 b hO).2.2⟩ (fun _ _ => rfl) (by omega) (by simp [cb_V])
end CB

-- 18.b11
theorem cb_V_split (g : Nat → Int) {n U : Nat} (h : n < U) : cb_V g U = cb_V g n + g n % 4294967296 * 4294967296 ^ n + 4294967296 ^ (n + 1) * cb_V (fun i => g (n + 1 + i)) (U - (n + 1)) := by
  have e : U = n + 1 + (U - (n + 1)) := by omega
  have h1 := cb_V_add g (n + 1) (U - (n + 1))
  rw [← e] at h1
  rw [h1, cb_V]
theorem cd_inv {low inv inv' m k : Int} (h : m ∣ low * inv - 1) (h' : inv' % 4294967296 = (inv * (2 - low * inv)) % 4294967296) (hk : k ∣ m * m) (hB : k ∣ 4294967296) : k ∣ low * inv' - 1 := by
  obtain ⟨t, ht⟩ : ∃ t : Int, inv' = inv * (2 - low * inv) + 4294967296 * t := by
    generalize inv * (2 - low * inv) = w at h' ⊢
    exact ⟨inv' / 4294967296 - w / 4294967296, by omega⟩
  obtain ⟨y, hy⟩ := h
  have e : low * inv' - 1 = 4294967296 * (low * t) - (m * m) * (y * y) := by
    have e2 : (low * inv - 1) * (low * inv - 1) = (m * m) * (y * y) := by rw [hy]; grind
    rw [← e2, ht]
    grind
  rw [e]
  exact Int.dvd_sub (Int.dvd_trans hB (Int.dvd_mul_right _ _)) (Int.dvd_trans hk (Int.dvd_mul_right _ _))
theorem cd_odd8 {a : Int} (h : a % 2 = 1) : (8 : Int) ∣ a * a - 1 := by
  apply Int.dvd_of_emod_eq_zero
  have e : a * a % 8 = 1 := by
    rw [Int.mul_emod]
    have : a % 8 = 1 ∨ a % 8 = 3 ∨ a % 8 = 5 ∨ a % 8 = 7 := by omega
    rcases this with q | q | q | q <;> rw [q] <;> rfl
  omega
section CB
variable {L : List Nat} {K : Nat → cw_K} {r : Nat → Nat → Nat} {z A : Nat → Nat → Int} {b : Nat}
/-- a divider made ready for v -/
noncomputable def cd_P (r : Nat → Nat → Nat) (z A : Nat → Nat → Int) (D : Nat) (v : Int) : Prop :=
  (0 ≤ z D 1 ∧ z D 1 < 2048) ∧ v = cb_u r z A (r D 0) * 2 ^ (z D 1).toNat ∧ cb_u r z A (r D 0) % 2 = 1 ∧ z (r D 0) 2 = 0 ∧ z D 2 * cb_u r z A (r D 0) % 4294967296 = 1
theorem cb_all_z (h : cb_all L K r z A) {z' : Nat → Nat → Int} (e : ∀ b, cw_O L K 0 b → z' b = z b) : cb_all L K r z' A := by
  refine ⟨h.1, fun b hb => ?_⟩
  have := h.2 b hb
  unfold cb_k at this ⊢
  rw [e b hb]
  exact this
theorem cb_u_z {z' : Nat → Nat → Int} (e : z' b = z b) : cb_u r z' A b = cb_u r z A b ∧ cb_v r z' A b = cb_v r z A b := by
  unfold cb_v cb_u
  rw [e]
  exact ⟨rfl, rfl⟩
theorem cw_O_ne {ci cj x y : Nat} (h1 : cw_O L K ci x) (h2 : cw_O L K cj y) (h : ci ≠ cj) : x ≠ y := by
  intro e
  subst e
  have := h1.2.symm.trans h2.2
  exact h (Sum.inl.inj this)
theorem wq_c1_prepare {D : Nat} (h : cb_all L K r z A) (hD : cw_O L K 1 D) (ho : cw_O L K 0 (r D 0)) (hO : cw_O L K 0 b) (hne : b ≠ r D 0) (hfit : z b 1 ≤ (cw_n K (r (r D 0) 0) : Int)) (hnz : ¬ cb_u r z A b = 0) (hpos : z b 2 = 0) {Q : (Nat → Nat → Int) → (Nat → Nat → Int) → Prop} (hQ : ∀ z' A' : Nat → Nat → Int, cb_all L K r z' A' → (∀ a, a ≠ r D 0 → a ≠ D → z' a = z a) → (∀ k, k ≠ 1 → k ≠ 2 → z' D k = z D k) → (∀ a, a ≠ r (r D 0) 0 → A' a = A a) → hz_rI (z' D 2) → cd_P r z' A' D (cb_u r z A b) → Q z' A') : wp_c1_prepare L K z r A D b Q := by
  have on := cb_n h.1 ho
  have Do : D ≠ r D 0 := cw_O_ne hD ho (by decide)
  have bo := (h.2 b hO).1
  refine ⟨hD, ho, wq_c0_copy h ho hO hfit (fun z1 A1 h1 hY1 hu1 _ hl1 hs1 => ?_)⟩
  refine wq_c0_lowZeros h1 ho (fun s s0 _ hs => ?_)
  obtain ⟨m, hm⟩ := hs
  rw [hu1] at hm
  obtain ⟨m1, m2⟩ := hm hnz
  intro z2 e2
  have h2 : cb_all L K r z2 A1 := cb_all_z h1 (fun c hc => by rw [e2, cw_s_a (cw_O_ne hc hD (by decide))])
  have d2 : z2 D 1 = (s : Int) := by rw [e2, cw_s_same]
  have o2 : z2 (r D 0) = z1 (r D 0) := by rw [e2, cw_s_a (Ne.symm Do)]
  have u2 := (cb_u_z (r := r) (A := A1) o2).1
  rw [d2]
  refine wq_c0_shiftDown h2 ho (by omega) (fun z3 A3 h3 hY3 hu3 hl3 hs3 => ?_)
  rw [u2, hu1, m1, Int.mul_ediv_cancel _ (by have := Int.pow_pos (m := s) (show (0 : Int) < 2 by decide); omega)] at hu3
  have k3 := h3.2 _ ho
  have u30 := cb_u0 k3 h3.1 ho
  have l3 : 0 < z3 (r D 0) 1 := by
    have := k3.1
    have : ¬ z3 (r D 0) 1 = 0 := fun q => by have := u30.mp q; omega
    omega
  have sg3 : z3 (r D 0) 2 = 0 := by rw [hs3 l3, o2, hs1, hpos]
  have D3 : z3 D = z2 D := hY3.1 D Do
  refine ⟨by have := k3.1; omega, fun q => by omega, fun _ => ⟨on.1, by omega, hD, fun z4 e4 => ?_⟩⟩
  have r3 := (h3.1.1 _ ho).2.2 0
  obtain ⟨low, hlow⟩ : ∃ low : Int, low = A3 (r (r D 0) 0) ((0 : Int).toNat) := ⟨_, rfl⟩
  rw [← hlow] at e4 ⊢
  have hlow0 : low = A3 (r (r D 0) 0) 0 := hlow
  -- the lowest digit is odd
  have hdig : ∃ X : Int, cb_u r z3 A3 (r D 0) = low % 4294967296 + 4294967296 * X := by
    refine ⟨cb_V (fun i => A3 (r (r D 0) 0) (i + 1)) ((z3 (r D 0) 1).toNat - 1), ?_⟩
    unfold cb_u
    rw [show (z3 (r D 0) 1).toNat = ((z3 (r D 0) 1).toNat - 1) + 1 by omega, cb_V_low, hlow0, show (z3 (r D 0) 1).toNat - 1 + 1 - 1 = (z3 (r D 0) 1).toNat - 1 by omega]
  obtain ⟨X, hX⟩ := hdig
  have odd : low % 2 = 1 := by omega
  intro P hP
  have key : ∀ (k : Nat) (n : Nat) (z5 : Nat → Nat → Int) (x : Int), n + k = 4 → x = (n : Int) → (∀ a, a ≠ D → z5 a = z3 a) → (∀ j, j ≠ 2 → z5 D j = z3 D j) → hz_rI (z5 D 2) → ((n = 0 → (8 : Int) ∣ low * z5 D 2 - 1) ∧ (n = 1 → (64 : Int) ∣ low * z5 D 2 - 1) ∧ (n = 2 → (4096 : Int) ∣ low * z5 D 2 - 1) ∧ (n = 3 → (16777216 : Int) ∣ low * z5 D 2 - 1) ∧ (n = 4 → (4294967296 : Int) ∣ low * z5 D 2 - 1)) → P z5 x := by
    intro k
    induction k with
    | zero =>
      intro n z5 x en ex hz5 hD5 hr5 hv
      have en : n = 4 := by omega
      subst en
      refine hP z5 x ⟨by omega, fun _ => ?_, fun q => by omega⟩
      have o5 : z5 (r D 0) = z3 (r D 0) := hz5 _ (Ne.symm Do)
      have h5 : cb_all L K r z5 A3 := cb_all_z h3 (fun c hc => hz5 c (cw_O_ne hc hD (by decide)))
      refine hQ z5 A3 h5 (fun a a1 a2 => by rw [hz5 a a2, hY3.1 a a1, e2, cw_s_a a2, hY1.1 a a1]) (fun j j1 j2 => by rw [hD5 j j2, D3, e2, cw_s_k j1, hY1.1 D Do]) (fun a ha => by rw [hY3.2 a ha, hY1.2 a ha]) hr5 ?_
      have u5 := (cb_u_z (r := r) (A := A3) o5).1
      have t5 : z5 D 1 = (s : Int) := by rw [hD5 1 (by decide), D3, d2]
      refine ⟨by omega, ?_, by rw [u5, hu3]; exact m2, by rw [o5]; exact sg3, ?_⟩
      · rw [u5, hu3, t5, show ((s : Int)).toNat = s by omega]; exact m1
      · rw [u5, hX]
        obtain ⟨y, hy⟩ := hv.2.2.2.2 rfl
        have e1 := Int.mul_ediv_add_emod low 4294967296
        have e2 : z5 D 2 * (low % 4294967296 + 4294967296 * X) = 1 + 4294967296 * (y + z5 D 2 * X - z5 D 2 * (low / 4294967296)) := by
          have : low % 4294967296 = low - 4294967296 * (low / 4294967296) := by omega
          rw [this]
          grind
        rw [e2, Int.add_mul_emod_self_left]
        rfl
    | succ k ih =>
      intro n z5 x en ex hz5 hD5 hr5 hv
      subst ex
      refine hP z5 n ⟨by omega, fun q => by omega, fun _ => ⟨hD, fun y yr ye z6 e6 x6 ex6 => ?_⟩⟩
      refine ih (n + 1) z6 x6 (by omega) (by omega) (fun a ha => by rw [e6, cw_s_a ha]; exact hz5 a ha) (fun j hj => by rw [e6, cw_s_k hj]; exact hD5 j hj) (by rw [e6, cw_s_same]; exact yr) ?_
      have y6 : z6 D 2 = y := by rw [e6, cw_s_same]
      rw [y6]
      refine ⟨fun q => by omega, fun q => ?_, fun q => ?_, fun q => ?_, fun q => ?_⟩
      · exact cd_inv (hv.1 (by omega)) ye (by decide) (by decide)
      · exact cd_inv (hv.2.1 (by omega)) ye (by decide) (by decide)
      · exact cd_inv (hv.2.2.1 (by omega)) ye (by decide) (by decide)
      · exact cd_inv (hv.2.2.2.1 (by omega)) ye (by decide) (by decide)
  refine key 4 0 z4 0 (by omega) rfl (fun a ha => by rw [e4, cw_s_a ha]) (fun j hj => by rw [e4, cw_s_k hj]) (by rw [e4, cw_s_same, hlow0]; exact r3) ⟨fun _ => ?_, by omega, by omega, by omega, by omega⟩
  rw [e4, cw_s_same]
  exact cd_odd8 odd
end CB

-- 18.b12
theorem cd_step {q m : Int} {n : Nat} : q % 4294967296 ^ (n + 1) = q % 4294967296 ^ n + q / 4294967296 ^ n % 4294967296 * 4294967296 ^ n := by
  have hp := cb_p n
  have h1 := Int.mul_ediv_add_emod q (4294967296 ^ n)
  have h2 := Int.mul_ediv_add_emod (q / 4294967296 ^ n) 4294967296
  have r0 := Int.emod_nonneg q (show (4294967296 : Int) ^ n ≠ 0 by omega)
  have r1 := Int.emod_lt_of_pos q hp
  have e : q = (q % 4294967296 ^ n + q / 4294967296 ^ n % 4294967296 * 4294967296 ^ n) + 4294967296 ^ (n + 1) * (q / 4294967296 ^ n / 4294967296) := by
    rw [Int.pow_succ]
    generalize (4294967296 : Int) ^ n = Y at *
    generalize q / Y = a at *
    grind
  have b0 : 0 ≤ q / 4294967296 ^ n % 4294967296 * 4294967296 ^ n := Int.mul_nonneg (by omega) (by omega)
  have b1 : q / 4294967296 ^ n % 4294967296 * 4294967296 ^ n ≤ 4294967295 * 4294967296 ^ n := Int.mul_le_mul_of_nonneg_right (by omega) (by omega)
  generalize hX : q % 4294967296 ^ n + q / 4294967296 ^ n % 4294967296 * 4294967296 ^ n = X at *
  generalize q / 4294967296 ^ n / 4294967296 = Z at *
  conv => lhs; rw [e]
  rw [Int.add_mul_emod_self_left]
  exact Int.emod_eq_of_lt (by omega) (by rw [Int.pow_succ]; omega)
/-- the lowest digit of what stands at n -/
theorem cd_low {Y g X m t a : Int} {U n : Nat} (hn : n < U) (hY : Y = 4294967296 ^ n) (h : g * Y + 4294967296 ^ (n + 1) * X = a * Y + t * 4294967296 ^ U) : g % 4294967296 = a % 4294967296 := by
  have hp : 0 < Y := by rw [hY]; exact cb_p n
  have e1 : (4294967296 : Int) ^ U = Y * (4294967296 * 4294967296 ^ (U - n - 1)) := by
    rw [hY, show (4294967296 : Int) * 4294967296 ^ (U - n - 1) = 4294967296 ^ (U - n) by rw [Int.mul_comm, ← Int.pow_succ, show (U - n - 1).succ = U - n by omega], ← Int.pow_add, show n + (U - n) = U by omega]
  have e2 : (4294967296 : Int) ^ (n + 1) = Y * 4294967296 := by rw [hY, Int.pow_succ]
  rw [e1, e2] at h
  generalize (4294967296 : Int) ^ (U - n - 1) = W at h
  have e3 : Y * (g + 4294967296 * X) = Y * (a + 4294967296 * (t * W)) := by grind
  have e4 := Int.eq_of_mul_eq_mul_left (by omega) e3
  have e5 : g = a + 4294967296 * (t * W - X) := by grind
  rw [e5, Int.add_mul_emod_self_left]
section CB
variable {L : List Nat} {K : Nat → cw_K} {r : Nat → Nat → Nat} {z A : Nat → Nat → Int} {b : Nat}
theorem wq_c1_divide {D : Nat} {v : Int} (h : cb_all L K r z A) (hD : cw_O L K 1 D) (ho : cw_O L K 0 (r D 0)) (hO : cw_O L K 0 b) (hne : r D 0 ≠ b) (hP : cd_P r z A D v) {Q : (Nat → Nat → Int) → (Nat → Nat → Int) → Prop} (hQ : ∀ z' A' : Nat → Nat → Int, cb_all L K r z' A' → cb_Y r b z A z' A' → z' b 1 ≤ z b 1 → (v ∣ cb_u r z A b → cb_u r z' A' b = cb_u r z A b / v ∧ (0 < z' b 1 → z' b 2 = z b 2)) → Q z' A') : wp_c1_divide L K z r A D b Q := by
  obtain ⟨p1, p2, p3, p4, p5⟩ := hP
  have Db : D ≠ b := cw_O_ne hD hO (by decide)
  have hn := cb_n h.1 hO
  obtain ⟨s, hs⟩ : ∃ s : Nat, z D 1 = (s : Int) := ⟨(z D 1).toNat, by omega⟩
  rw [hs] at p2
  rw [show ((s : Int)).toNat = s by omega] at p2
  have T0 := Int.pow_pos (m := s) (show (0 : Int) < 2 by decide)
  have hk := (h.2 b hO).1
  refine ⟨hD, hO, ?_⟩
  rw [hs]
  refine wq_c0_shiftDown h hO (by omega) (fun z1 A1 h1 hY1 hu1 hl1 hs1 => ⟨ho, ?_⟩)
  have o1 : z1 (r D 0) = z (r D 0) := hY1.1 _ hne
  have ro : r (r D 0) 0 ≠ r b 0 := cb_ne h.1 hO ho hne
  have uo : cb_u r z1 A1 (r D 0) = cb_u r z A (r D 0) := (cb_k_other h.1 hO ho hne hY1).2.1
  obtain ⟨m, hm⟩ : ∃ m : Int, m = cb_u r z A (r D 0) := ⟨_, rfl⟩
  rw [← hm] at uo p2 p3 p5
  have m0 : 0 < m := by
    have := cb_u_nn r z A (r D 0)
    have : ¬ m = 0 := fun q => by rw [q] at p3; omega
    omega
  -- what an exact quotient is
  have ex : v ∣ cb_u r z A b → ∃ q : Int, 0 ≤ q ∧ cb_u r z1 A1 b = q * m ∧ q = cb_u r z A b / v := by
    intro ⟨q, hq⟩
    have ub := cb_u_nn r z A b
    have v0 : 0 < v := by rw [p2]; exact Int.mul_pos m0 T0
    refine ⟨q, ?_, ?_, ?_⟩
    · apply Classical.byContradiction
      intro c
      have : v * q ≤ v * (-1) := Int.mul_le_mul_of_nonneg_left (by omega) (by omega)
      omega
    · rw [hu1, hq, p2, show m * 2 ^ s * q = q * m * 2 ^ s by rw [Int.mul_comm _ q, ← Int.mul_assoc], Int.mul_ediv_cancel _ (by omega)]
    · rw [hq, Int.mul_ediv_cancel_left _ (by omega)]
  refine wq_c0_isOne h1 ho (fun x x01 x1 => ⟨by omega, fun q => ?_, fun q => ?_⟩)
  · have lo : 0 < z1 (r D 0) 1 := by
      have e0 := cb_u0 (h1.2 _ ho) h1.1 ho
      have := (h1.2 _ ho).1
      omega
    have ko := (h1.2 _ ho).1
    have kb := (h1.2 b hO).1
    have on := cb_n h1.1 ho
    refine ⟨by omega, fun x2 q2 => ?_⟩
    obtain ⟨U, hU⟩ : ∃ U : Nat, x2 = (U : Int) := ⟨x2.toNat, by omega⟩
    subst hU
    have U1 : (U : Int) ≤ z1 b 1 := by omega
    have U2 : z1 b 1 - z1 (r D 0) 1 + 1 ≤ (U : Int) := by omega
    clear q2
    -- the quotient has room
    have qlt : ∀ q : Int, 0 ≤ q → cb_u r z1 A1 b = q * m → q < 4294967296 ^ U := by
      intro q q0 hq
      apply Classical.byContradiction
      intro c
      have t1 := (h1.2 _ ho).2.2.1 lo
      have t2 := (h1.1.1 _ ho).2.2 (z1 (r D 0) 1 - 1).toNat
      have t3 := cb_V_top (g := A1 (r (r D 0) 0)) (n := (z1 (r D 0) 1 - 1).toNat) (by omega)
      have t4 : cb_V (A1 (r (r D 0) 0)) ((z1 (r D 0) 1 - 1).toNat + 1) = m := by
        rw [show (z1 (r D 0) 1 - 1).toNat + 1 = (z1 (r D 0) 1).toNat by omega]
        exact uo
      rw [t4] at t3
      have t5 : 4294967296 ^ U * 4294967296 ^ (z1 (r D 0) 1 - 1).toNat ≤ q * m := Int.mul_le_mul (by omega) t3 (by have := cb_p (z1 (r D 0) 1 - 1).toNat; omega) q0
      rw [← Int.pow_add] at t5
      have t6 := cb_u_lt r z1 A1 b
      have t7 := cb_pow_le (m := (z1 b 1).toNat) (n := U + (z1 (r D 0) 1 - 1).toNat) (by omega)
      omega
    intro P hPP
    have key : ∀ (k n : Nat) (A2 : Nat → Nat → Int) (x : Int), n + k = U → x = (n : Int) → cb_S L K r A2 → (∀ a, a ≠ r b 0 → A2 a = A1 a) → (∀ q : Int, 0 ≤ q → cb_u r z1 A1 b = q * m → cb_V (A2 (r b 0)) n = q % 4294967296 ^ n ∧ ∃ t : Int, cb_V (A2 (r b 0)) U = cb_V (A2 (r b 0)) n + q / 4294967296 ^ n * m * 4294967296 ^ n + t * 4294967296 ^ U) → P A2 x := by
      intro k
      induction k with
      | zero =>
        intro n A2 x en exx hS2 hA2 hV
        have en : n = U := by omega
        subst en
        refine hPP A2 x ⟨by omega, by omega, fun _ => ⟨hO, ?_⟩, fun q => by omega⟩
        have b3 := (h1.2 b hO).2.1
        refine wq_c0_trim hS2 hO (by omega) (by omega) b3 (fun z2 hz hk2 hu2 hle2 hsg2 => ?_)
        have hY2 : cb_Y r b z1 A1 z2 A2 := ⟨hz, hA2⟩
        refine hQ z2 A2 (cb_all_of h1 hO hY2 hS2 hk2) (cb_Y_trans hY1 hY2) (by omega) (fun hv => ?_)
        obtain ⟨q, q0, q1, q2⟩ := ex hv
        have hq := (hV q q0 q1).1
        rw [hu2, show ((n : Int)).toNat = n by omega, hq, Int.emod_eq_of_lt q0 (qlt q q0 q1)]
        refine ⟨q2, fun c => ?_⟩
        rw [hsg2 c]
        refine hs1 ?_
        apply Classical.byContradiction
        intro c2
        have e0 := cb_u0 (h1.2 b hO) h1.1 hO
        have : z1 b 1 = 0 := by omega
        have := e0.mp this
        have e1 := cb_u0 hk2 hS2 hO
        rw [hu2, show ((n : Int)).toNat = n by omega, hq, Int.emod_eq_of_lt q0 (qlt q q0 q1)] at e1
        have q00 : q = 0 := by
          rcases Int.mul_eq_zero.mp (q1.symm.trans this) with c3 | c3
          · exact c3
          · omega
        have := e1.mpr q00
        omega
      | succ k ih =>
        intro n A2 x en exx hS2 hA2 hV
        subst exx
        have e9 : ((n : Int)).toNat = n := by omega
        refine hPP A2 n ⟨by omega, by omega, fun q => by omega, fun _ => ⟨hO, hn.1, by omega, hD, fun y yr ye => ⟨yr, fun f ef => ?_⟩⟩⟩
        rw [e9] at ye
        have eD : z1 D = z D := hY1.1 D Db
        rw [eD] at ye
        refine wq_c1_takeMultiple hS2 hD ho ko hO hne (by omega) (sh := n) (u := U) (by omega) (by omega) (fun A3 hS3 hA3 hlo hV3 => ⟨by omega, fun A4 e4 x3 e3 => ?_⟩)
        obtain ⟨t2, ht2⟩ := hV3
        have um : cb_V (A2 (r (r D 0) 0)) (z1 (r D 0) 1).toNat = m := by
          rw [hA2 _ ro]
          exact uo
        rw [um] at ht2
        refine ih (n + 1) A4 x3 (by omega) (by omega) (by rw [e4]; exact cb_S_put hS3 hO yr) (fun a ha => by rw [e4, hz_s_a ha, hA3 a ha, hA2 a ha]) (fun q q0 q1 => ?_)
        obtain ⟨v1, t, v2⟩ := hV q q0 q1
        obtain ⟨Y, hY⟩ : ∃ Y : Int, Y = 4294967296 ^ n := ⟨_, rfl⟩
        obtain ⟨a, ha⟩ : ∃ a : Int, a = q / Y := ⟨_, rfl⟩
        have low3 : cb_V (A3 (r b 0)) n = cb_V (A2 (r b 0)) n := cb_V_congr (fun j hj => by rw [hlo j hj])
        have sp2 := cb_V_split (A2 (r b 0)) (n := n) (U := U) (by omega)
        have sp3 := cb_V_split (A3 (r b 0)) (n := n) (U := U) (by omega)
        rw [← hY, ← ha] at v2
        rw [← hY] at sp2 sp3 ht2
        -- the digit is that of the quotient
        have g1 : A2 (r b 0) n % 4294967296 % 4294967296 = a * m % 4294967296 := cd_low (m := m) (Y := Y) (X := cb_V (fun i => A2 (r b 0) (n + 1 + i)) (U - (n + 1))) (t := t) (U := U) (n := n) (by omega) hY (by omega)
        have g2 : f = a % 4294967296 := by
          rw [ef, ye, Int.mul_emod, ← Int.emod_emod_of_dvd (A2 (r b 0) n) (show (4294967296 : Int) ∣ 4294967296 from Int.dvd_refl _), g1, ← Int.mul_emod]
          rw [show a * m * z D 2 = a * (z D 2 * m) by grind, Int.mul_emod, p5, Int.mul_one, Int.emod_emod_of_dvd _ (Int.dvd_refl _)]
        -- what stands there then is 0
        have g3 : A3 (r b 0) n % 4294967296 % 4294967296 = (a - f) * m % 4294967296 := cd_low (m := m) (Y := Y) (X := cb_V (fun i => A3 (r b 0) (n + 1 + i)) (U - (n + 1))) (t := t + t2) (U := U) (n := n) (by omega) hY (by
          rw [Int.add_mul t t2, Int.sub_mul, Int.sub_mul]
          omega)
        have g4 : (a - f) * m % 4294967296 = 0 := by
          rw [g2, show a - a % 4294967296 = 4294967296 * (a / 4294967296) by have := Int.mul_ediv_add_emod a 4294967296; omega, Int.mul_assoc, Int.mul_emod_right]
        have g5 : A3 (r b 0) n % 4294967296 = 0 := by omega
        rw [g5] at sp3
        have V4 : cb_V (A4 (r b 0)) (n + 1) = cb_V (A2 (r b 0)) n + f * Y := by
          rw [e4, cb_L_V (t := y) rfl rfl, low3, ← ef, hY]
        have sp4 := cb_V_split (A4 (r b 0)) (n := n) (U := U) (by omega)
        have hi4 : cb_V (fun i => A4 (r b 0) (n + 1 + i)) (U - (n + 1)) = cb_V (fun i => A3 (r b 0) (n + 1 + i)) (U - (n + 1)) := cb_V_congr (fun i _ => by
          show A4 (r b 0) (n + 1 + i) % _ = A3 (r b 0) (n + 1 + i) % _
          rw [e4, hz_s_i (by omega)])
        rw [hi4, ← hY] at sp4
        have V4' : cb_V (A4 (r b 0)) (n + 1) = cb_V (A4 (r b 0)) n + A4 (r b 0) n % 4294967296 * Y := by rw [cb_V, hY]
        refine ⟨?_, t + t2, ?_⟩
        · rw [V4, v1, g2, ha, hY, cd_step (m := m)]
        · have d1 : q / 4294967296 ^ (n + 1) = a / 4294967296 := by rw [ha, hY, Int.pow_succ, Int.ediv_ediv_of_nonneg (by have := cb_p n; omega)]
          have d2 : a = 4294967296 * (a / 4294967296) + f := by rw [g2]; exact (Int.mul_ediv_add_emod a 4294967296).symm
          rw [d1, Int.add_mul t t2]
          have d3 : a / 4294967296 * m * 4294967296 ^ (n + 1) = a * m * Y - f * m * Y := by
            rw [Int.pow_succ, ← hY, ← Int.sub_mul, ← Int.sub_mul]
            have : a - f = 4294967296 * (a / 4294967296) := by omega
            rw [this]
            grind
          rw [d3]
          omega
    refine key U 0 A1 0 (by omega) rfl h1.1 (fun _ _ => rfl) (fun q q0 q1 => ⟨by simp [cb_V], - cb_V (fun i => A1 (r b 0) (U + i)) ((z1 b 1).toNat - U), ?_⟩)
    have sp := cb_V_add (A1 (r b 0)) U ((z1 b 1).toNat - U)
    rw [show U + ((z1 b 1).toNat - U) = (z1 b 1).toNat by omega] at sp
    have : cb_u r z1 A1 b = cb_V (A1 (r b 0)) (z1 b 1).toNat := rfl
    rw [← this, q1] at sp
    simp [cb_V]
    rw [Int.neg_mul, Int.mul_comm (cb_V _ _) (4294967296 ^ U)]
    omega
  · refine hQ z1 A1 h1 hY1 hl1 (fun hv => ?_)
    have vo : cb_v r z1 A1 (r D 0) = m := by
      unfold cb_v
      rw [o1, p4, if_neg (by decide), uo]
    have m1 : m = 1 := by
      rw [← vo]
      exact x1.mp (by omega)
    rw [hu1, p2, m1, Int.one_mul]
    exact ⟨rfl, hs1⟩
end CB
