-- 30.big
/-- registers: where the digits of w begin, and how many it has room for -/
noncomputable def hb_f (w : Int) : Int := if 4243 ≤ w then 551590 + 270 * (w - 4243) else 130 * w
noncomputable def hb_r (w : Int) : Int := if 4243 ≤ w then 270 else 130
theorem hb_f_in {w i : Int} (h0 : 0 ≤ w) (h1 : w < 4250) (h2 : 0 ≤ i) (h3 : i < hb_r w) : 0 ≤ hb_f w + i ∧ hb_f w + i < 553480 := by
  unfold hb_r at h3
  unfold hb_f
  split at h3 <;> split <;> omega
theorem hb_f_inj {w u i j : Int} (h0 : 0 ≤ w) (h1 : w < 4250) (k0 : 0 ≤ u) (k1 : u < 4250) (h2 : 0 ≤ i) (h3 : i < hb_r w) (h4 : 0 ≤ j) (h5 : j < hb_r u) (h : (hb_f w + i).toNat = (hb_f u + j).toNat) : w = u ∧ i = j := by
  have e1 := hb_f_in h0 h1 h2 h3
  have e2 := hb_f_in k0 k1 h4 h5
  have e3 : hb_f w + i = hb_f u + j := by omega
  unfold hb_r at h3 h5
  unfold hb_f at e3
  split at h3 <;> split at h5 <;> simp_all <;> omega
theorem wq_from {z : Nat → Int} {A : Nat → Nat → Int} {w : Int} {Q : Int → Prop} (h0 : 0 ≤ w) (h1 : w < 4250) (h : Q (hb_f w)) : wp_from z A w Q := by
  refine ⟨⟨by omega, by omega⟩, fun c => ?_, fun c => ?_⟩
  · show Q _
    unfold hb_f at h
    rw [if_pos c] at h
    exact h
  · show Q _
    unfold hb_f at h
    rw [if_neg c] at h
    exact h
/-- the number that n digits make, the lowest first -/
noncomputable def hb_V (g : Nat → Int) : Nat → Int
  | 0 => 0
  | n + 1 => hb_V g n + g n * 16777216 ^ n
theorem hb_V_congr {g h : Nat → Int} {n : Nat} (e : ∀ i, i < n → g i = h i) : hb_V g n = hb_V h n := by
  induction n with
  | zero => rfl
  | succ n ih => simp only [hb_V]; rw [ih (fun i hi => e i (by omega)), e n (by omega)]
/-- digits in their range -/
noncomputable def hb_D (g : Nat → Int) (n : Nat) : Prop := ∀ i, i < n → 0 ≤ g i ∧ g i < 16777216
theorem hb_pow_pos (n : Nat) : (0 : Int) < 16777216 ^ n := Int.pow_pos (by decide)
theorem hb_V_range {g : Nat → Int} {n : Nat} (h : hb_D g n) : 0 ≤ hb_V g n ∧ hb_V g n < 16777216 ^ n := by
  induction n with
  | zero => simp [hb_V]
  | succ n ih =>
    obtain ⟨h1, h2⟩ := ih (fun i hi => h i (by omega))
    obtain ⟨h3, h4⟩ := h n (by omega)
    have hp := hb_pow_pos n
    have h5 : 0 ≤ g n * 16777216 ^ n := Int.mul_nonneg h3 (by omega)
    have h6 : g n * 16777216 ^ n ≤ 16777215 * 16777216 ^ n := Int.mul_le_mul_of_nonneg_right (by omega) (by omega)
    simp only [hb_V, Int.pow_succ]
    omega
theorem hb_V_zero {g : Nat → Int} {n : Nat} (h : hb_D g n) (h0 : hb_V g n = 0) : ∀ i, i < n → g i = 0 := by
  induction n with
  | zero => intro i hi; omega
  | succ n ih =>
    obtain ⟨h1, h2⟩ := hb_V_range (fun i hi => h i (by omega) : hb_D g n)
    obtain ⟨h3, h4⟩ := h n (by omega)
    have hp := hb_pow_pos n
    simp only [hb_V] at h0
    have h5 : 0 ≤ g n * 16777216 ^ n := Int.mul_nonneg h3 (by omega)
    have h6 : g n * 16777216 ^ n = 0 := by omega
    have h7 : g n = 0 := by
      rcases Int.mul_eq_zero.mp h6 with h8 | h8
      · exact h8
      · omega
    intro i hi
    by_cases e : i = n
    · subst e; exact h7
    · exact ih (fun i hi => h i (by omega)) (by omega) i (by omega)
/-- a register's digits, and what a register is -/
noncomputable def hb_g (A : Nat → Nat → Int) (w : Int) : Nat → Int := fun i => A 0 (hb_f w + i).toNat
noncomputable def hb_W (A : Nat → Nat → Int) (w : Int) : Prop := (0 ≤ A 1 w.toNat ∧ A 1 w.toNat ≤ hb_r w) ∧ (A 2 w.toNat = 0 ∨ A 2 w.toNat = 1) ∧ hb_D (hb_g A w) (A 1 w.toNat).toNat ∧ (0 < A 1 w.toNat → hb_g A w ((A 1 w.toNat).toNat - 1) ≠ 0)
/-- its size and its value -/
noncomputable def hb_z (A : Nat → Nat → Int) (w : Int) : Int := hb_V (hb_g A w) (A 1 w.toNat).toNat
noncomputable def hb_v (A : Nat → Nat → Int) (w : Int) : Int := if A 2 w.toNat = 0 then hb_z A w else - hb_z A w
noncomputable def hb_ok (A : Nat → Nat → Int) : Prop := ∀ w, 0 ≤ w → w < 4250 → hb_W A w
/-- registers outside ws are as they were, and all other arrays -/
noncomputable def hb_X (ws : Int → Prop) (A B : Nat → Nat → Int) : Prop := (∀ k, 2 < k → B k = A k) ∧ ∀ u, 0 ≤ u → u < 4250 → ¬ ws u → B 1 u.toNat = A 1 u.toNat ∧ B 2 u.toNat = A 2 u.toNat ∧ ∀ i : Int, 0 ≤ i → i < hb_r u → B 0 (hb_f u + i).toNat = A 0 (hb_f u + i).toNat
theorem hb_X_refl (ws : Int → Prop) (A : Nat → Nat → Int) : hb_X ws A A := ⟨fun _ _ => rfl, fun _ _ _ _ => ⟨rfl, rfl, fun _ _ _ => rfl⟩⟩
theorem hb_X_trans {ws : Int → Prop} {A B C : Nat → Nat → Int} (h1 : hb_X ws A B) (h2 : hb_X ws B C) : hb_X ws A C :=
  ⟨fun k hk => (h2.1 k hk).trans (h1.1 k hk), fun u a b c => by
    obtain ⟨x1, x2, x3⟩ := h1.2 u a b c
    obtain ⟨y1, y2, y3⟩ := h2.2 u a b c
    exact ⟨y1.trans x1, y2.trans x2, fun i hi hj => (y3 i hi hj).trans (x3 i hi hj)⟩⟩
theorem hb_X_mono {ws vs : Int → Prop} {A B : Nat → Nat → Int} (h : ∀ u, ws u → vs u) (h1 : hb_X ws A B) : hb_X vs A B :=
  ⟨h1.1, fun u a b c => h1.2 u a b (fun d => c (h u d))⟩
theorem hb_X_g {ws : Int → Prop} {A B : Nat → Nat → Int} (h : hb_X ws A B) {u : Int} (a : 0 ≤ u) (b : u < 4250) (c : ¬ ws u) {n : Nat} (hn : (n : Int) ≤ hb_r u) : ∀ i, i < n → hb_g B u i = hb_g A u i := fun i hi => (h.2 u a b c).2.2 i (by omega) (by omega)
theorem hb_X_W {ws : Int → Prop} {A B : Nat → Nat → Int} (h : hb_X ws A B) {u : Int} (a : 0 ≤ u) (b : u < 4250) (c : ¬ ws u) (hW : hb_W A u) : hb_W B u := by
  obtain ⟨h1, h2, h3⟩ := h.2 u a b c
  obtain ⟨⟨w0, w1⟩, w2, w3, w4⟩ := hW
  have hg := hb_X_g h a b c (n := (A 1 u.toNat).toNat) (by omega)
  unfold hb_W
  rw [h1, h2]
  refine ⟨⟨w0, w1⟩, w2, fun i hi => ?_, fun hp => ?_⟩
  · rw [hg i hi]
    exact w3 i hi
  · rw [hg _ (by omega)]
    exact w4 hp
theorem hb_X_z {ws : Int → Prop} {A B : Nat → Nat → Int} (h : hb_X ws A B) {u : Int} (a : 0 ≤ u) (b : u < 4250) (c : ¬ ws u) (hW : hb_W A u) : hb_z B u = hb_z A u := by
  obtain ⟨h1, h2, h3⟩ := h.2 u a b c
  obtain ⟨⟨w0, w1⟩, -⟩ := hW
  unfold hb_z
  rw [h1]
  exact hb_V_congr (hb_X_g h a b c (by omega))
theorem hb_X_v {ws : Int → Prop} {A B : Nat → Nat → Int} (h : hb_X ws A B) {u : Int} (a : 0 ≤ u) (b : u < 4250) (c : ¬ ws u) (hW : hb_W A u) : hb_v B u = hb_v A u := by
  unfold hb_v
  rw [(h.2 u a b c).2.1, hb_X_z h a b c hW]
theorem hb_X_ok {ws : Int → Prop} {A B : Nat → Nat → Int} (h : hb_X ws A B) (hok : hb_ok A) (hw : ∀ u, 0 ≤ u → u < 4250 → ws u → hb_W B u) : hb_ok B := by
  intro u a b
  by_cases c : ws u
  · exact hw u a b c
  · exact hb_X_W h a b c (hok u a b)
theorem hb_r_pos (w : Int) : 130 ≤ hb_r w ∧ hb_r w ≤ 270 := by unfold hb_r; split <;> omega
/-- one digit, the length, the sign of w changed -/
theorem hb_s_same (A : Nat → Nat → Int) (k : Nat) (i v : Int) : hz_s A k i v k i.toNat = v := by simp [hz_s, lp_U, hz_u]
theorem hb_s_other {A : Nat → Nat → Int} {k j : Nat} {i v : Int} (h : j ≠ k) : hz_s A k i v j = A j := by simp [hz_s, lp_U, h]
theorem hb_s_at {A : Nat → Nat → Int} {k n : Nat} {i v : Int} (h : n ≠ i.toNat) : hz_s A k i v k n = A k n := by simp [hz_s, lp_U, hz_u, h]
theorem hb_X_s0 {A : Nat → Nat → Int} {w i v : Int} (h0 : 0 ≤ w) (h1 : w < 4250) (h2 : 0 ≤ i) (h3 : i < hb_r w) : hb_X (fun u => u = w) A (hz_s A 0 (hb_f w + i) v) :=
  ⟨fun k hk => hb_s_other (by omega), fun u a b c => ⟨by rw [hb_s_other (by decide)], by rw [hb_s_other (by decide)], fun j hj hj2 => hb_s_at (fun e => c (hb_f_inj a b h0 h1 hj hj2 h2 h3 e).1)⟩⟩
theorem hb_X_s1 {A : Nat → Nat → Int} {w v : Int} (h0 : 0 ≤ w) : hb_X (fun u => u = w) A (hz_s A 1 w v) :=
  ⟨fun k hk => hb_s_other (by omega), fun u a b c => ⟨hb_s_at (fun e => c (by omega)), by rw [hb_s_other (by decide)], fun j hj hj2 => by rw [hb_s_other (by decide)]⟩⟩
theorem hb_X_s2 {A : Nat → Nat → Int} {w v : Int} (h0 : 0 ≤ w) : hb_X (fun u => u = w) A (hz_s A 2 w v) :=
  ⟨fun k hk => hb_s_other (by omega), fun u a b c => ⟨by rw [hb_s_other (by decide)], hb_s_at (fun e => c (by omega)), fun j hj hj2 => by rw [hb_s_other (by decide)]⟩⟩
theorem hb_g_s0 {A : Nat → Nat → Int} {w i v : Int} (h0 : 0 ≤ w) (h1 : w < 4250) (h2 : 0 ≤ i) (h3 : i < hb_r w) (j : Nat) (hj : (j : Int) < hb_r w) : hb_g (hz_s A 0 (hb_f w + i) v) w j = if (j : Int) = i then v else hb_g A w j := by
  unfold hb_g
  by_cases e : (j : Int) = i
  · rw [if_pos e, e, hb_s_same]
  · rw [if_neg e]
    exact hb_s_at (fun h => e (hb_f_inj h0 h1 h0 h1 (by omega) hj h2 h3 h).2)

-- 31.big2
theorem hb_pow_le {m n : Nat} (h : m ≤ n) : (16777216 : Int) ^ m ≤ 16777216 ^ n := by
  obtain ⟨k, rfl⟩ : ∃ k, n = m + k := ⟨n - m, by omega⟩
  rw [Int.pow_add]
  have h1 := hb_pow_pos m
  have h2 := hb_pow_pos k
  have h3 : 16777216 ^ m * 1 ≤ (16777216 : Int) ^ m * 16777216 ^ k := Int.mul_le_mul_of_nonneg_left (by omega) (by omega)
  omega
/-- a register whose first digits may be 0 -/
noncomputable def hb_P (A : Nat → Nat → Int) (w : Int) : Prop := (0 ≤ A 1 w.toNat ∧ A 1 w.toNat ≤ hb_r w) ∧ (A 2 w.toNat = 0 ∨ A 2 w.toNat = 1) ∧ hb_D (hb_g A w) (A 1 w.toNat).toNat
theorem hb_W_P {A : Nat → Nat → Int} {w : Int} (h : hb_W A w) : hb_P A w := ⟨h.1, h.2.1, h.2.2.1⟩
theorem hb_rI {a : Int} (h : -300 ≤ a ∧ a ≤ 1000000) : hz_rI a := ⟨by omega, by omega⟩
theorem hb_P_n {A : Nat → Nat → Int} {w : Int} (h : hb_P A w) : hz_rI (A 1 w.toNat) := by
  have h1 := h.1
  have h2 := hb_r_pos w
  exact ⟨by omega, by omega⟩
theorem hb_P_m {A : Nat → Nat → Int} {w : Int} (h : hb_P A w) : hz_rI (A 2 w.toNat) := by
  rcases h.2.1 with e | e <;> rw [e] <;> exact ⟨by decide, by decide⟩
theorem hb_P_d {A : Nat → Nat → Int} {w : Int} (h : hb_P A w) {i : Nat} (hi : (i : Int) < A 1 w.toNat) : 0 ≤ A 0 (hb_f w + i).toNat ∧ A 0 (hb_f w + i).toNat < 16777216 := h.2.2 i (by omega)
theorem hb_z_nonneg {A : Nat → Nat → Int} {w : Int} (h : hb_P A w) : 0 ≤ hb_z A w := (hb_V_range h.2.2).1
theorem hb_z_lt {A : Nat → Nat → Int} {w : Int} (h : hb_P A w) : hb_z A w < 16777216 ^ (A 1 w.toNat).toNat := (hb_V_range h.2.2).2
theorem hb_z_ge {A : Nat → Nat → Int} {w : Int} (h : hb_W A w) (hp : 0 < A 1 w.toNat) : 16777216 ^ ((A 1 w.toNat).toNat - 1) ≤ hb_z A w := by
  obtain ⟨-, -, hd, ht⟩ := h
  obtain ⟨n, hn⟩ : ∃ n, (A 1 w.toNat).toNat = n + 1 := ⟨(A 1 w.toNat).toNat - 1, by omega⟩
  unfold hb_z
  rw [hn] at hd ht ⊢
  have h1 := (hb_V_range (fun i hi => hd i (by omega) : hb_D (hb_g A w) n)).1
  have h2 := hd n (by omega)
  have h3 := ht hp
  simp only [Nat.add_sub_cancel] at h3 ⊢
  have h4 : 1 * 16777216 ^ n ≤ hb_g A w n * 16777216 ^ n := Int.mul_le_mul_of_nonneg_right (by omega) (Int.le_of_lt (hb_pow_pos n))
  simp only [hb_V]
  omega
theorem hb_z_zero {A : Nat → Nat → Int} {w : Int} (h : hb_W A w) : A 1 w.toNat = 0 ↔ hb_z A w = 0 := by
  constructor
  · intro e
    unfold hb_z
    rw [e]
    rfl
  · intro e
    apply Classical.byContradiction
    intro hne
    have h1 := hb_z_ge h (by have := h.1; omega)
    have h2 := hb_pow_pos ((A 1 w.toNat).toNat - 1)
    omega
theorem wq_bigIsZero {z : Nat → Int} {A : Nat → Nat → Int} {w : Int} {Q : Int → Prop} (h0 : 0 ≤ w) (h1 : w < 4250) (hW : hb_W A w) (hQ : Q (if hb_z A w = 0 then 1 else 0)) : wp_bigIsZero z A w Q := by
  refine ⟨⟨h0, h1⟩, hb_P_n (hb_W_P hW), fun c => ?_, fun c => ?_⟩
  · rw [if_neg (fun e => c ((hb_z_zero hW).mpr e))] at hQ
    exact ⟨Or.inl rfl, hQ⟩
  · rw [if_pos ((hb_z_zero hW).mp c)] at hQ
    exact ⟨Or.inr rfl, hQ⟩
theorem hb_v_sign {A : Nat → Nat → Int} {w : Int} (h : hb_W A w) : (hb_v A w).sign = if A 1 w.toNat = 0 then 0 else if A 2 w.toNat = 0 then 1 else -1 := by
  have hz := hb_z_zero h
  have hn := hb_z_nonneg (hb_W_P h)
  unfold hb_v
  by_cases c : A 1 w.toNat = 0
  · rw [if_pos c, hz.mp c]
    split <;> rfl
  · rw [if_neg c]
    have hp : 0 < hb_z A w := by
      have : hb_z A w ≠ 0 := fun e => c (hz.mpr e)
      omega
    split
    · exact Int.sign_eq_one_of_pos hp
    · exact Int.sign_eq_neg_one_of_neg (by omega)
theorem wq_bigSign {z : Nat → Int} {A : Nat → Nat → Int} {w : Int} {Q : Int → Prop} (h0 : 0 ≤ w) (h1 : w < 4250) (hW : hb_W A w) (hQ : Q (hb_v A w).sign) : wp_bigSign z A w Q := by
  rw [hb_v_sign hW] at hQ
  refine ⟨⟨h0, h1⟩, hb_P_n (hb_W_P hW), fun c => ⟨⟨h0, h1⟩, hb_P_m (hb_W_P hW), fun d => ?_, fun d => ?_⟩, fun c => ?_⟩
  · rw [if_neg c, if_pos d] at hQ
    exact hQ
  · rw [if_neg c, if_neg d] at hQ
    exact hQ
  · rw [if_pos c] at hQ
    exact hQ
theorem hb_one {A : Nat → Nat → Int} {w : Int} (h : hb_W A w) : hb_z A w = 1 ↔ A 1 w.toNat = 1 ∧ A 0 (hb_f w).toNat = 1 := by
  constructor
  · intro e
    have hne : A 1 w.toNat ≠ 0 := fun c => by have := (hb_z_zero h).mp c; omega
    have h1 : A 1 w.toNat = 1 := by
      apply Classical.byContradiction
      intro hc
      have h2 := hb_z_ge h (by have := h.1; omega)
      have h3 : (16777216 : Int) ^ 1 ≤ 16777216 ^ ((A 1 w.toNat).toNat - 1) := hb_pow_le (by have := h.1; omega)
      have h4 : (16777216 : Int) ^ 1 = 16777216 := by decide
      omega
    refine ⟨h1, ?_⟩
    unfold hb_z at e
    rw [h1] at e
    simp only [Int.toNat_one, hb_V, hb_g] at e
    have e0 : (hb_f w + ((0 : Nat) : Int)) = hb_f w := by omega
    rw [e0] at e
    omega
  · intro ⟨h1, h2⟩
    unfold hb_z
    rw [h1]
    simp only [Int.toNat_one, hb_V, hb_g]
    have e0 : (hb_f w + ((0 : Nat) : Int)) = hb_f w := by omega
    rw [e0, h2]
    rfl
theorem wq_bigIsOne {z : Nat → Int} {A : Nat → Nat → Int} {w : Int} {Q : Int → Prop} (h0 : 0 ≤ w) (h1 : w < 4250) (hW : hb_W A w) (hQ : Q (if hb_z A w = 1 then 1 else 0)) : wp_bigIsOne z A w Q := by
  refine ⟨⟨h0, h1⟩, hb_P_n (hb_W_P hW), fun c => ?_, fun c => wq_from h0 h1 ?_⟩
  · rw [if_neg (fun e => c ((hb_one hW).mp e).1)] at hQ
    exact ⟨Or.inl rfl, hQ⟩
  · have hr := hb_r_pos w
    have hf := hb_f_in h0 h1 (Int.le_refl 0) (by omega)
    rw [Int.add_zero] at hf
    have hd := hb_P_d (hb_W_P hW) (i := 0) (by omega)
    have e0 : (hb_f w + ((0 : Nat) : Int)) = hb_f w := by omega
    rw [e0] at hd
    refine ⟨hf, ⟨by omega, by omega⟩, fun d => ?_, fun d => ?_⟩
    · rw [if_neg (fun e => d ((hb_one hW).mp e).2)] at hQ
      exact ⟨Or.inl rfl, hQ⟩
    · rw [if_pos ((hb_one hW).mpr ⟨c, d⟩)] at hQ
      exact ⟨Or.inr rfl, hQ⟩
/-- the digit at i, 0 behind the last -/
noncomputable def hb_at (A : Nat → Nat → Int) (w i : Int) : Int := if A 1 w.toNat ≤ i then 0 else A 0 (hb_f w + i).toNat
theorem wq_bigAt {z : Nat → Int} {A : Nat → Nat → Int} {w i : Int} {Q : Int → Prop} (h0 : 0 ≤ w) (h1 : w < 4250) (hP : hb_P A w) (hi : 0 ≤ i) (hi2 : i ≤ 1000000) (hQ : Q (hb_at A w i)) : wp_bigAt z A w i Q := by
  unfold hb_at at hQ
  refine ⟨⟨h0, h1⟩, ⟨by omega, by omega⟩, hb_P_n hP, fun c => ?_, fun c => wq_from h0 h1 ⟨hb_f_in h0 h1 hi (by have := hP.1; omega), ?_⟩⟩
  · rw [if_pos c] at hQ
    exact hQ
  · rw [if_neg c] at hQ
    exact hQ
theorem hb_at_range {A : Nat → Nat → Int} {w i : Int} (hP : hb_P A w) (hi : 0 ≤ i) : 0 ≤ hb_at A w i ∧ hb_at A w i < 16777216 := by
  unfold hb_at
  split
  · omega
  · have h := hb_P_d hP (i := i.toNat) (by omega)
    have e : ((i.toNat : Nat) : Int) = i := by omega
    rw [e] at h
    exact h
theorem hb_at_g {A : Nat → Nat → Int} {w : Int} {i : Nat} (hi : (i : Int) < A 1 w.toNat) : hb_at A w i = hb_g A w i := by
  unfold hb_at hb_g
  rw [if_neg (by omega)]
theorem wq_bigTrim {z : Nat → Int} {A : Nat → Nat → Int} {w : Int} {Q : (Nat → Nat → Int) → Prop} (h0 : 0 ≤ w) (h1 : w < 4250) (hP : hb_P A w)
    (hQ : ∀ B, hb_X (fun u => u = w) A B → hb_W B w → hb_z B w = hb_z A w → B 2 w.toNat = A 2 w.toNat → B 1 w.toNat ≤ A 1 w.toNat → Q B) : wp_bigTrim z A w Q := by
  unfold wp_bigTrim wp_bigTrim_0
  intro P hP0
  have key : ∀ (n : Nat) (B : Nat → Nat → Int), (B 1 w.toNat).toNat = n → hb_P B w → hb_X (fun u => u = w) A B → hb_z B w = hb_z A w → B 2 w.toNat = A 2 w.toNat → B 1 w.toNat ≤ A 1 w.toNat → P B := by
    intro n
    induction n with
    | zero =>
      intro B hn hPB hX hz h2 hle
      refine hP0 B ⟨⟨h0, h1⟩, hb_P_n hPB, fun c => ?_, fun c => by omega⟩
      exact hQ B hX ⟨hPB.1, hPB.2.1, hPB.2.2, fun hp => by omega⟩ hz h2 hle
    | succ n ih =>
      intro B hn hPB hX hz h2 hle
      have hlen := hPB.1
      have hd := hb_P_d hPB (i := n) (by omega)
      have hf := hb_f_in (i := (n : Int)) h0 h1 (by omega) (by omega)
      have e : (hb_f w + B 1 w.toNat) - 1 = hb_f w + (n : Int) := by omega
      refine hP0 B ⟨⟨h0, h1⟩, hb_P_n hPB, fun c => by omega, fun c => wq_from h0 h1 ?_⟩
      rw [e]
      refine ⟨⟨h0, h1⟩, hf, ⟨by omega, by omega⟩, fun d => ?_, fun d => ⟨⟨h0, h1⟩, ⟨h0, h1⟩, ?_⟩⟩
      · exact hQ B hX ⟨hPB.1, hPB.2.1, hPB.2.2, fun hp => by rw [hn]; exact d⟩ hz h2 hle
      · intro B2 hB2
        subst hB2
        have hs1 : hz_s B 1 w (B 1 w.toNat - 1) 1 w.toNat = B 1 w.toNat - 1 := hb_s_same _ _ _ _
        have hs2 : hz_s B 1 w (B 1 w.toNat - 1) 2 = B 2 := hb_s_other (by decide)
        have hs0 : hb_g (hz_s B 1 w (B 1 w.toNat - 1)) w = hb_g B w := by
          unfold hb_g
          rw [hb_s_other (by decide)]
        have hnn : (B 1 w.toNat - 1).toNat = n := by omega
        refine ih _ (by rw [hs1]; exact hnn) ⟨by rw [hs1]; omega, by rw [hs2]; exact hPB.2.1, ?_⟩ (hb_X_trans hX (hb_X_s1 h0)) ?_ (by rw [hs2]; exact h2) (by rw [hs1]; omega)
        · rw [hs1, hs0, hnn]
          exact fun i hi => hPB.2.2 i (by omega)
        · rw [← hz]
          unfold hb_z
          rw [hs1, hs0, hnn, hn]
          simp only [hb_V]
          have : hb_g B w n = 0 := d
          rw [this]
          omega
  exact key _ A rfl hP (hb_X_refl _ A) rfl rfl (Int.le_refl _)

-- 32.bigset
theorem wq_bigSet {z : Nat → Int} {A : Nat → Nat → Int} {w v : Int} {Q : (Nat → Nat → Int) → Prop} (h0 : 0 ≤ w) (h1 : w < 4250) (hv : -9223372036854775807 ≤ v ∧ v ≤ 9223372036854775807)
    (hQ : ∀ B, hb_X (fun u => u = w) A B → hb_W B w → hb_v B w = v → B 1 w.toNat ≤ 3 → Q B) : wp_bigSet z A w v Q := by
  have hr := hb_r_pos w
  have loop : ∀ (sg a : Int) (A7 : Nat → Nat → Int), 0 ≤ a → a ≤ 9223372036854775807 → (sg = 0 ∨ sg = 1) → hb_X (fun u => u = w) A A7 → A7 2 w.toNat = sg →
      (∀ B, hb_X (fun u => u = w) A B → hb_W B w → hb_z B w = a → B 2 w.toNat = sg → B 1 w.toNat ≤ 3 → Q B) → wp_bigSet_34 z A7 w 0 a Q := by
    intro sg a A7 ha ha2 hsg hX hm hq P hP
    have key : ∀ (k n : Nat) (B : Nat → Nat → Int) (left : Int), left.toNat = k → 0 ≤ left → hb_X (fun u => u = w) A B → B 2 w.toNat = sg → hb_D (hb_g B w) n → hb_V (hb_g B w) n + left * 16777216 ^ n = a →
        (0 < n → left = 0 → hb_g B w (n - 1) ≠ 0) → n ≤ 3 → P B (n : Int) left := by
      intro k
      induction k using Nat.strongRecOn with
      | ind k ih =>
        intro n B left hk hl hXB hmB hD hV hT hn
        have hV0 := (hb_V_range hD).1
        have hp := hb_pow_pos n
        have hla : left ≤ a := by
          have : left * 1 ≤ left * 16777216 ^ n := Int.mul_le_mul_of_nonneg_left (by omega) hl
          omega
        refine hP B n left ⟨⟨by omega, by omega⟩, fun c => ?_, fun c => ?_⟩
        · subst c
          refine ⟨⟨h0, h1⟩, fun B2 hB2 => ?_⟩
          have e1 : B2 1 w.toNat = n := by rw [hB2]; exact hb_s_same _ _ _ _
          have e2 : B2 2 = B 2 := by rw [hB2]; exact hb_s_other (by decide)
          have e0 : hb_g B2 w = hb_g B w := by
            unfold hb_g
            rw [hB2, hb_s_other (by decide)]
          have en : ((n : Int)).toNat = n := by omega
          refine hq B2 (hb_X_trans hXB (by rw [hB2]; exact hb_X_s1 h0)) ⟨by rw [e1]; omega, by rw [e2, hmB]; exact hsg, ?_, ?_⟩ ?_ (by rw [e2]; exact hmB) (by rw [e1]; omega)
          · rw [e0, e1, en]
            exact hD
          · rw [e0, e1, en]
            exact fun hpn => hT (by omega) rfl
          · unfold hb_z
            rw [e0, e1, en]
            omega
        · have hn2 : n < 3 := by
            apply Classical.byContradiction
            intro hc
            have hn3 : n = 3 := by omega
            subst hn3
            have : 1 * 16777216 ^ 3 ≤ left * 16777216 ^ 3 := Int.mul_le_mul_of_nonneg_right (by omega) (by omega)
            have h4 : (16777216 : Int) ^ 3 = 4722366482869645213696 := by decide
            omega
          refine wq_from h0 h1 ⟨⟨by omega, by omega⟩, hb_f_in h0 h1 (by omega) (by omega), fun B2 hB2 n2 hn2 => ⟨⟨hl, ⟨by omega, by omega⟩⟩, fun l2 hl2 => ?_⟩⟩
          have hm0 : 0 ≤ left % 16777216 := Int.emod_nonneg _ (by decide)
          have hm1 : left % 16777216 < 16777216 := Int.emod_lt_of_pos _ (by decide)
          have hq0 : 0 ≤ left / 16777216 := Int.ediv_nonneg hl (by decide)
          have hdm : left % 16777216 + 16777216 * (left / 16777216) = left := Int.emod_add_mul_ediv left 16777216
          have hg : ∀ j : Nat, (j : Int) < hb_r w → hb_g B2 w j = if j = n then left % 16777216 else hb_g B w j := fun j hj => by
            rw [hB2, hb_g_s0 h0 h1 (by omega) (by omega) j hj]
            by_cases e : j = n
            · rw [if_pos e, if_pos (by omega)]
            · rw [if_neg e, if_neg (by omega)]
          have hX2 : hb_X (fun u => u = w) A B2 := hb_X_trans hXB (by rw [hB2]; exact hb_X_s0 h0 h1 (by omega) (by omega))
          have e2 : n2 = ((n + 1 : Nat) : Int) := by omega
          rw [e2]
          refine ih l2.toNat (by omega) (n + 1) B2 l2 rfl (by omega) hX2 (by rw [hB2, hb_s_other (by decide)]; exact hmB) ?_ ?_ ?_ (by omega)
          · intro i hi
            rw [hg i (by omega)]
            split
            · omega
            · exact hD i (by omega)
          · have hVn : hb_V (hb_g B2 w) n = hb_V (hb_g B w) n := hb_V_congr (fun i hi => by rw [hg i (by omega), if_neg (by omega)])
            simp only [hb_V, hVn]
            rw [hg n (by omega), if_pos rfl, hl2, ← hV, Int.pow_succ]
            have e3 : left * 16777216 ^ n = (left % 16777216 + 16777216 * (left / 16777216)) * 16777216 ^ n := by rw [hdm]
            rw [e3]
            grind
          · intro _ hz
            rw [Nat.add_sub_cancel, hg n (by omega), if_pos rfl]
            omega
    exact key a.toNat 0 A7 a rfl ha hX hm (fun i hi => by omega) (by simp [hb_V]) (fun h => by omega) (by omega)
  refine ⟨⟨by omega, by omega⟩, fun c => ⟨⟨h0, h1⟩, Or.inl rfl, fun A7 hA7 => ⟨⟨by omega, by omega⟩, fun _ => ?_, fun d => by omega⟩⟩, fun c => ⟨⟨h0, h1⟩, Or.inr rfl, fun A7 hA7 => ⟨⟨by omega, by omega⟩, fun d => by omega, fun _ => ?_⟩⟩⟩
  · refine loop 0 v A7 c (by omega) (Or.inl rfl) (by rw [hA7]; exact hb_X_s2 h0) (by rw [hA7]; exact hb_s_same _ _ _ _) (fun B hX hW hz hs hn => hQ B hX hW ?_ hn)
    unfold hb_v
    rw [if_pos hs, hz]
  · refine loop 1 (-v) A7 (by omega) (by omega) (Or.inr rfl) (by rw [hA7]; exact hb_X_s2 h0) (by rw [hA7]; exact hb_s_same _ _ _ _) (fun B hX hW hz hs hn => hQ B hX hW ?_ hn)
    unfold hb_v
    rw [hs, hz]
    simp
theorem wq_bigCopy {z : Nat → Int} {A : Nat → Nat → Int} {w u : Int} {Q : (Nat → Nat → Int) → Prop} (h0 : 0 ≤ w) (h1 : w < 4250) (k0 : 0 ≤ u) (k1 : u < 4250) (hwu : u ≠ w) (hW : hb_W A u) (hlen : A 1 u.toNat ≤ hb_r w)
    (hQ : ∀ B, hb_X (fun x => x = w) A B → hb_W B w → hb_z B w = hb_z A u → B 2 w.toNat = A 2 u.toNat → B 1 w.toNat = A 1 u.toNat → Q B) : wp_bigCopy z A w u Q := by
  have hr := hb_r_pos w
  have hl := hW.1
  have hut : u.toNat ≠ w.toNat := by omega
  refine ⟨⟨k0, k1⟩, ⟨h0, h1⟩, hW.2.1, fun A6 hA6 => ⟨⟨k0, k1⟩, ⟨h0, h1⟩, fun A7 hA7 => ?_⟩⟩
  have hX6 : hb_X (fun x => x = w) A A6 := by rw [hA6]; exact hb_X_s2 h0
  have hX7 : hb_X (fun x => x = w) A A7 := hb_X_trans hX6 (by rw [hA7]; exact hb_X_s1 h0)
  have e71 : A7 1 w.toNat = A 1 u.toNat := by rw [hA7, hb_s_same, hA6, hb_s_other (by decide)]
  have e72 : A7 2 w.toNat = A 2 u.toNat := by rw [hA7, hb_s_other (by decide), hA6, hb_s_same]
  intro P hP
  have key : ∀ (k i : Nat) (B : Nat → Nat → Int), (A 1 u.toNat).toNat - i = k → (i : Int) ≤ A 1 u.toNat → hb_X (fun x => x = w) A B → B 1 w.toNat = A 1 u.toNat → B 2 w.toNat = A 2 u.toNat → (∀ j, j < i → hb_g B w j = hb_g A u j) → P B (i : Int) := by
    intro k
    induction k with
    | zero =>
      intro i B hk hi hX hB1 hB2 hd
      have hBu := hX.2 u k0 k1 hwu
      refine hP B i ⟨⟨k0, k1⟩, ⟨by omega, by omega⟩, by rw [hBu.1]; exact hb_P_n (hb_W_P hW), fun c => ?_, fun c => by rw [hBu.1] at c; omega⟩
      have hi2 : (A 1 u.toNat).toNat = i := by omega
      have hz : hb_z B w = hb_z A u := by
        unfold hb_z
        rw [hB1, hi2]
        exact hb_V_congr hd
      refine hQ B hX ⟨by rw [hB1]; omega, by rw [hB2]; exact hW.2.1, ?_, ?_⟩ hz hB2 hB1
      · rw [hB1, hi2]
        intro j hj
        rw [hd j hj]
        exact hW.2.2.1 j (by omega)
      · rw [hB1]
        intro hpos
        rw [hd _ (by omega)]
        exact hW.2.2.2 hpos
    | succ k ih =>
      intro i B hk hi hX hB1 hB2 hd
      have hBu := hX.2 u k0 k1 hwu
      refine hP B i ⟨⟨k0, k1⟩, ⟨by omega, by omega⟩, by rw [hBu.1]; exact hb_P_n (hb_W_P hW), fun c => by rw [hBu.1] at c; omega, fun c => wq_from h0 h1 (wq_from k0 k1 ?_)⟩
      refine ⟨hb_f_in k0 k1 (by omega) (by omega), hb_f_in h0 h1 (by omega) (by omega), fun B2 hB2' i2 hi2 => ?_⟩
      have hX2 : hb_X (fun x => x = w) A B2 := hb_X_trans hX (by rw [hB2']; exact hb_X_s0 h0 h1 (by omega) (by omega))
      have e2 : i2 = ((i + 1 : Nat) : Int) := by omega
      rw [e2]
      refine ih (i + 1) B2 (by omega) (by omega) hX2 (by rw [hB2', hb_s_other (by decide)]; exact hB1) (by rw [hB2', hb_s_other (by decide)]; exact hB2) (fun j hj => ?_)
      rw [hB2', hb_g_s0 h0 h1 (by omega) (by omega) j (by omega)]
      by_cases e : j = i
      · subst e
        rw [if_pos rfl]
        exact hBu.2.2 j (by omega) (by omega)
      · rw [if_neg (by omega)]
        exact hd j (by omega)
  exact key _ 0 A7 rfl (by omega) hX7 e71 e72 (fun j hj => by omega)
theorem hb_copy_v {A B : Nat → Nat → Int} {w u : Int} (hz : hb_z B w = hb_z A u) (h2 : B 2 w.toNat = A 2 u.toNat) : hb_v B w = hb_v A u := by
  unfold hb_v
  rw [h2, hz]
theorem hb_V_lt {g h : Nat → Int} {n i : Nat} (hi : i < n) (hg : hb_D g n) (hh : hb_D h n) (e : ∀ j, i < j → j < n → g j = h j) (hlt : g i < h i) : hb_V g n < hb_V h n := by
  induction n with
  | zero => omega
  | succ n ih =>
    simp only [hb_V]
    have hp := hb_pow_pos n
    by_cases c : i = n
    · subst c
      have h1 := (hb_V_range (fun j hj => hg j (by omega) : hb_D g i)).2
      have h2 := (hb_V_range (fun j hj => hh j (by omega) : hb_D h i)).1
      have h3 : (g i + 1) * 16777216 ^ i ≤ h i * 16777216 ^ i := Int.mul_le_mul_of_nonneg_right (by omega) (by omega)
      rw [Int.add_mul] at h3
      omega
    · have h1 := ih (by omega) (fun j hj => hg j (by omega)) (fun j hj => hh j (by omega)) (fun j h1 h2 => e j h1 (by omega))
      rw [e n (by omega) (by omega)]
      omega
/-- how two numbers lie -/
noncomputable def hb_c (x y : Int) : Int := if x < y then -1 else if x = y then 0 else 1
theorem hb_z_len {A : Nat → Nat → Int} {w u : Int} (hw : hb_W A w) (hu : hb_W A u) (h : A 1 w.toNat < A 1 u.toNat) : hb_z A w < hb_z A u := by
  have h1 := hb_z_lt (hb_W_P hw)
  have h2 := hb_z_ge hu (by have := hw.1; omega)
  have h3 : (16777216 : Int) ^ (A 1 w.toNat).toNat ≤ 16777216 ^ ((A 1 u.toNat).toNat - 1) := hb_pow_le (by have := hw.1; omega)
  omega
theorem wq_bigSizes {z : Nat → Int} {A : Nat → Nat → Int} {w u : Int} {Q : Int → Prop} (h0 : 0 ≤ w) (h1 : w < 4250) (k0 : 0 ≤ u) (k1 : u < 4250) (hw : hb_W A w) (hu : hb_W A u) (hQ : Q (hb_c (hb_z A w) (hb_z A u))) : wp_bigSizes z A w u Q := by
  have hrw := hb_r_pos w
  have hlw := hw.1
  refine ⟨⟨h0, h1⟩, ⟨k0, k1⟩, hb_P_n (hb_W_P hw), hb_P_n (hb_W_P hu), fun c => ⟨⟨h0, h1⟩, fun x hx => ?_⟩, fun c => ⟨⟨h0, h1⟩, ⟨k0, k1⟩, hb_P_n (hb_W_P hw), hb_P_n (hb_W_P hu), fun d => ?_, fun d => ?_⟩⟩
  · intro P hP
    have key : ∀ (k : Nat) (i : Int), (i + 1).toNat = k → -1 ≤ i → i < A 1 w.toNat → (∀ j : Nat, i < j → j < (A 1 w.toNat).toNat → hb_g A w j = hb_g A u j) → P i := by
      intro k
      induction k with
      | zero =>
        intro i hk hi hi2 he
        refine hP i ⟨⟨by omega, by omega⟩, fun d => ⟨⟨by omega, by omega⟩, fun d2 => by omega, fun _ => ?_⟩, fun d => by omega⟩
        have e : hb_z A w = hb_z A u := by
          unfold hb_z
          rw [← c]
          exact hb_V_congr (fun j hj => he j (by omega) hj)
        unfold hb_c at hQ
        rw [if_neg (by omega), if_pos e] at hQ
        exact hQ
      | succ k ih =>
        intro i hk hi hi2 he
        have ei : ((i.toNat : Nat) : Int) = i := by omega
        have a1 := hb_at_g (A := A) (w := w) (i := i.toNat) (by omega)
        have a2 := hb_at_g (A := A) (w := u) (i := i.toNat) (by omega)
        rw [ei] at a1 a2
        have r1 := hb_at_range (hb_W_P hw) (i := i) (by omega)
        have r2 := hb_at_range (hb_W_P hu) (i := i) (by omega)
        refine hP i ⟨⟨by omega, by omega⟩, fun d => by omega, fun d => wq_bigAt h0 h1 (hb_W_P hw) (by omega) (by omega) (wq_bigAt k0 k1 (hb_W_P hu) (by omega) (by omega) ?_)⟩
        refine ⟨⟨by omega, by omega⟩, ⟨by omega, by omega⟩, fun ne => ⟨⟨by omega, by omega⟩, fun _ => ?_, fun d2 => by omega⟩, fun eq x2 hx2 => ?_⟩
        · refine wq_bigAt h0 h1 (hb_W_P hw) (by omega) (by omega) (wq_bigAt k0 k1 (hb_W_P hu) (by omega) (by omega) ?_)
          have dw := hw.2.2.1
          have du := hu.2.2.1
          rw [← c] at du
          refine ⟨⟨by omega, by omega⟩, ⟨by omega, by omega⟩, fun ge => ?_, fun lt => ?_⟩
          · have hlt : hb_z A u < hb_z A w := by
              unfold hb_z
              rw [← c]
              exact hb_V_lt (i := i.toNat) (by omega) du dw (fun j j1 j2 => (he j (by omega) j2).symm) (by omega)
            unfold hb_c at hQ
            rw [if_neg (by omega), if_neg (by omega)] at hQ
            exact hQ
          · have hlt : hb_z A w < hb_z A u := by
              unfold hb_z
              rw [← c]
              exact hb_V_lt (i := i.toNat) (by omega) dw du (fun j j1 j2 => he j (by omega) j2) (by omega)
            unfold hb_c at hQ
            rw [if_pos hlt] at hQ
            exact hQ
        · refine ih x2 (by omega) (by omega) (by omega) (fun j hj hj2 => ?_)
          by_cases e : j = i.toNat
          · subst e
            omega
          · exact he j (by omega) hj2
    exact key _ x rfl (by omega) (by omega) (fun j hj hj2 => by omega)
  · have := hb_z_len hu hw (by omega)
    unfold hb_c at hQ
    rw [if_neg (by omega), if_neg (by omega)] at hQ
    exact hQ
  · have := hb_z_len hw hu (by omega)
    unfold hb_c at hQ
    rw [if_pos this] at hQ
    exact hQ
theorem hb_sign_cases (x : Int) : (x < 0 ∧ x.sign = -1) ∨ (x = 0 ∧ x.sign = 0) ∨ (0 < x ∧ x.sign = 1) := by
  rcases Int.lt_trichotomy x 0 with h | h | h
  · exact Or.inl ⟨h, Int.sign_eq_neg_one_of_neg h⟩
  · exact Or.inr (Or.inl ⟨h, by rw [h]; rfl⟩)
  · exact Or.inr (Or.inr ⟨h, Int.sign_eq_one_of_pos h⟩)
theorem hb_c_r (x y : Int) : hz_rI (hb_c x y) := by unfold hb_c; split <;> (try split) <;> exact ⟨by decide, by decide⟩
theorem wq_bigCompare {z : Nat → Int} {A : Nat → Nat → Int} {w u : Int} {Q : Int → Prop} (h0 : 0 ≤ w) (h1 : w < 4250) (k0 : 0 ≤ u) (k1 : u < 4250) (hw : hb_W A w) (hu : hb_W A u) (hQ : Q (hb_c (hb_v A w) (hb_v A u))) : wp_bigCompare z A w u Q := by
  refine wq_bigSign h0 h1 hw (wq_bigSign k0 k1 hu ?_)
  have c1 := hb_sign_cases (hb_v A w)
  have c2 := hb_sign_cases (hb_v A u)
  have n1 := hb_z_nonneg (hb_W_P hw)
  have n2 := hb_z_nonneg (hb_W_P hu)
  refine ⟨⟨by omega, by omega⟩, ⟨by omega, by omega⟩, fun e => wq_bigSizes h0 h1 k0 k1 hw hu ?_, fun ne => ⟨⟨by omega, by omega⟩, ⟨by omega, by omega⟩, fun ge => ?_, fun lt => ?_⟩⟩
  · have e2 : (hb_v A w).sign * hb_c (hb_z A w) (hb_z A u) = hb_c (hb_v A w) (hb_v A u) := by
      unfold hb_c
      unfold hb_v at c1 c2 e ⊢
      rcases c1 with ⟨a, b⟩ | ⟨a, b⟩ | ⟨a, b⟩ <;> rcases c2 with ⟨a', b'⟩ | ⟨a', b'⟩ | ⟨a', b'⟩ <;> rw [b] <;> rw [b] at e <;> rw [b'] at e <;> (try omega) <;> split at a <;> split at a' <;> simp_all <;> (repeat' split) <;> omega
    show Q _
    rw [e2]
    exact hQ
  · show Q 1
    unfold hb_c at hQ
    rw [if_neg (by omega), if_neg (by omega)] at hQ
    exact hQ
  · show Q (-1)
    unfold hb_c at hQ
    rw [if_pos (by omega)] at hQ
    exact hQ

-- 33.bigadd
theorem hb_V_at {A : Nat → Nat → Int} {w : Int} (h : 0 ≤ A 1 w.toNat) {n : Nat} (hn : A 1 w.toNat ≤ n) : hb_V (fun j => hb_at A w j) n = hb_z A w := by
  induction n with
  | zero =>
    unfold hb_z
    have e : (A 1 w.toNat).toNat = 0 := by omega
    rw [e]
    rfl
  | succ n ih =>
    by_cases c : A 1 w.toNat ≤ n
    · simp only [hb_V]
      rw [ih c]
      have e : hb_at A w n = 0 := if_pos c
      rw [e]
      omega
    · have e : (A 1 w.toNat).toNat = n + 1 := by omega
      unfold hb_z
      rw [e]
      exact hb_V_congr (fun i hi => hb_at_g (by omega))
theorem hb_top {g : Nat → Int} {n : Nat} (hD : hb_D g n) (hn : 0 < n) (h : 16777216 ^ (n - 1) ≤ hb_V g n) : g (n - 1) ≠ 0 := by
  intro e
  obtain ⟨k, rfl⟩ : ∃ k, n = k + 1 := ⟨n - 1, by omega⟩
  rw [Nat.add_sub_cancel] at e h
  simp only [hb_V] at h
  rw [e] at h
  have := (hb_V_range (fun i hi => hD i (by omega) : hb_D g k)).2
  omega
theorem hb_len_le {A : Nat → Nat → Int} {w : Int} (h : hb_W A w) {k : Nat} (hz : hb_z A w < 16777216 ^ k) : A 1 w.toNat ≤ k := by
  apply Classical.byContradiction
  intro hc
  have h1 := hb_z_ge h (by omega)
  have h2 : (16777216 : Int) ^ k ≤ 16777216 ^ ((A 1 w.toNat).toNat - 1) := hb_pow_le (by omega)
  omega
theorem wq_bigMore {z : Nat → Int} {A : Nat → Nat → Int} {w u : Int} {Q : (Nat → Nat → Int) → Prop} (h0 : 0 ≤ w) (h1 : w < 4250) (k0 : 0 ≤ u) (k1 : u < 4250) (hwu : u ≠ w) (hw : hb_W A w) (hu : hb_W A u) (hl1 : A 1 w.toNat < hb_r w) (hl2 : A 1 u.toNat < hb_r w)
    (hQ : ∀ B, hb_X (fun x => x = w) A B → hb_W B w → hb_z B w = hb_z A w + hb_z A u → B 2 w.toNat = A 2 w.toNat → Q B) : wp_bigMore z A w u Q := by
  have hr := hb_r_pos w
  have hlw := hw.1
  have hlu := hu.1
  have hPw := hb_W_P hw
  have hPu := hb_W_P hu
  have nw := hb_z_nonneg hPw
  have nu := hb_z_nonneg hPu
  have main : ∀ most : Int, A 1 w.toNat ≤ most → A 1 u.toNat ≤ most → most < hb_r w → (0 < most → 16777216 ^ (most.toNat - 1) ≤ hb_z A w + hb_z A u) → wp_bigMore_37 z A w u most 0 0 Q := by
    intro most m1 m2 m3 m4 P hP
    have key : ∀ (k i : Nat) (B : Nat → Nat → Int) (cr : Int), most.toNat - i = k → (i : Int) ≤ most → (cr = 0 ∨ cr = 1) → hb_X (fun x => x = w) A B → B 1 w.toNat = A 1 w.toNat → B 2 w.toNat = A 2 w.toNat → hb_D (hb_g B w) i → (∀ j : Nat, i ≤ j → (j : Int) < hb_r w → hb_g B w j = hb_g A w j) →
        hb_V (hb_g B w) i + cr * 16777216 ^ i = hb_V (fun j => hb_at A w j) i + hb_V (fun j => hb_at A u j) i → P B cr (i : Int) := by
      intro k
      induction k with
      | zero =>
        intro i B cr hk hi hcr hX hB1 hB2 hD hge hV
        have ei : most.toNat = i := by omega
        have ei2 : ((i : Nat) : Int) = most := by omega
        have ew := hb_V_at (A := A) (w := w) (n := i) (by omega) (by omega)
        have eu := hb_V_at (A := A) (w := u) (n := i) (by omega) (by omega)
        rw [ew, eu] at hV
        refine hP B cr i ⟨⟨by omega, by omega⟩, ⟨by omega, by omega⟩, fun c => ⟨⟨h0, h1⟩, fun B2 hB2' => ⟨⟨by omega, by omega⟩, fun c2 => ?_, fun c2 => wq_from h0 h1 ⟨hb_f_in h0 h1 (by omega) (by omega), fun B5 hB5 => ⟨⟨h0, h1⟩, fun B6 hB6 => ?_⟩⟩⟩⟩, fun c => by omega⟩
        · have hc0 : cr = 0 := by omega
          have e1 : B2 1 w.toNat = most := by rw [hB2']; exact hb_s_same _ _ _ _
          have e2 : B2 2 = B 2 := by rw [hB2']; exact hb_s_other (by decide)
          have e0 : hb_g B2 w = hb_g B w := by unfold hb_g; rw [hB2', hb_s_other (by decide)]
          have hz : hb_z B2 w = hb_z A w + hb_z A u := by
            unfold hb_z at hV ⊢
            rw [e0, e1, ei, ← hV, hc0]
            omega
          refine hQ B2 (hb_X_trans hX (by rw [hB2']; exact hb_X_s1 h0)) ⟨by rw [e1]; omega, by rw [e2, hB2]; exact hw.2.1, ?_, ?_⟩ hz (by rw [e2]; exact hB2)
          · rw [e0, e1, ei]
            exact hD
          · rw [e0, e1, ei]
            intro hpos
            refine hb_top hD (by omega) ?_
            have := m4 (by omega)
            rw [ei] at this
            unfold hb_z at hz
            rw [e0, e1, ei] at hz
            unfold hb_z at this
            omega
        · have hc1 : cr = 1 := by omega
          have e61 : B6 1 w.toNat = most + 1 := by rw [hB6]; exact hb_s_same _ _ _ _
          have e62 : B6 2 = B 2 := by rw [hB6, hb_s_other (by decide), hB5, hb_s_other (by decide), hB2', hb_s_other (by decide)]
          have e60 : ∀ j : Nat, (j : Int) < hb_r w → hb_g B6 w j = if j = i then cr else hb_g B w j := fun j hj => by
            have x1 : hb_g B6 w = hb_g B5 w := by unfold hb_g; rw [hB6, hb_s_other (by decide)]
            have x2 : hb_g B2 w = hb_g B w := by unfold hb_g; rw [hB2', hb_s_other (by decide)]
            rw [x1, hB5, hb_g_s0 h0 h1 (by omega) (by omega) j hj, x2]
            by_cases e : j = i
            · rw [if_pos e, if_pos (by omega)]
            · rw [if_neg e, if_neg (by omega)]
          have en : (most + 1).toNat = i + 1 := by omega
          have hVi : hb_V (hb_g B6 w) i = hb_V (hb_g B w) i := hb_V_congr (fun j hj => by rw [e60 j (by omega), if_neg (by omega)])
          have hz : hb_z B6 w = hb_z A w + hb_z A u := by
            unfold hb_z at hV ⊢
            rw [e61, en, ← hV]
            simp only [hb_V]
            rw [hVi, e60 i (by omega), if_pos rfl]
          have hX2 : hb_X (fun x => x = w) A B2 := hb_X_trans hX (by rw [hB2']; exact hb_X_s1 h0)
          have hX5 : hb_X (fun x => x = w) A B5 := hb_X_trans hX2 (by rw [hB5]; exact hb_X_s0 h0 h1 (by omega) (by omega))
          have hX6 : hb_X (fun x => x = w) A B6 := hb_X_trans hX5 (by rw [hB6]; exact hb_X_s1 h0)
          refine hQ B6 hX6 ⟨by rw [e61]; omega, by rw [e62, hB2]; exact hw.2.1, ?_, ?_⟩ hz (by rw [e62]; exact hB2)
          · rw [e61, en]
            intro j hj
            rw [e60 j (by omega)]
            split
            · omega
            · exact hD j (by omega)
          · intro _
            rw [e61, en, Nat.add_sub_cancel, e60 i (by omega), if_pos rfl]
            omega
      | succ k ih =>
        intro i B cr hk hi hcr hX hB1 hB2 hD hge hV
        have hBu := hX.2 u k0 k1 hwu
        have hPB : hb_P B w := ⟨by rw [hB1]; exact hw.1, by rw [hB2]; exact hw.2.1, by
          rw [hB1]
          intro j hj
          by_cases e : j < i
          · exact hD j e
          · rw [hge j (by omega) (by omega)]
            exact hw.2.2.1 j hj⟩
        have hPBu : hb_P B u := hb_W_P (hb_X_W hX k0 k1 hwu hu)
        have ea : hb_at B w i = hb_at A w i := by
          have := hge i (Nat.le_refl i) (by omega)
          unfold hb_g at this
          unfold hb_at
          rw [hB1, this]
        have eb : hb_at B u i = hb_at A u i := by
          unfold hb_at
          rw [hBu.1]
          split
          · rfl
          · exact hBu.2.2 i (by omega) (by omega)
        have ra := hb_at_range hPw (i := (i : Int)) (by omega)
        have rb := hb_at_range hPu (i := (i : Int)) (by omega)
        refine hP B cr i ⟨⟨by omega, by omega⟩, ⟨by omega, by omega⟩, fun c => by omega, fun c => wq_bigAt h0 h1 hPB (by omega) (by omega) (wq_bigAt k0 k1 hPBu (by omega) (by omega) ?_)⟩
        rw [ea, eb]
        intro x hx
        refine wq_from h0 h1 ⟨⟨by omega, by omega⟩, hb_f_in h0 h1 (by omega) (by omega), fun B2 hB2' => ⟨⟨by omega, by omega⟩, fun cr2 hcr2 i2 hi2 => ?_⟩⟩
        have hx0 : 0 ≤ x := by omega
        rw [Int.tdiv_eq_ediv_of_nonneg hx0] at hcr2
        rw [Int.tmod_eq_emod_of_nonneg hx0] at hB2'
        have hX2 : hb_X (fun x => x = w) A B2 := hb_X_trans hX (by rw [hB2']; exact hb_X_s0 h0 h1 (by omega) (by omega))
        have hg : ∀ j : Nat, (j : Int) < hb_r w → hb_g B2 w j = if j = i then x % 16777216 else hb_g B w j := fun j hj => by
          rw [hB2', hb_g_s0 h0 h1 (by omega) (by omega) j hj]
          by_cases e : j = i
          · rw [if_pos e, if_pos (by omega)]
          · rw [if_neg e, if_neg (by omega)]
        have e2 : i2 = ((i + 1 : Nat) : Int) := by omega
        rw [e2]
        refine ih (i + 1) B2 cr2 (by omega) (by omega) (by omega) hX2 (by rw [hB2', hb_s_other (by decide)]; exact hB1) (by rw [hB2', hb_s_other (by decide)]; exact hB2) ?_ ?_ ?_
        · intro j hj
          rw [hg j (by omega)]
          split
          · omega
          · exact hD j (by omega)
        · intro j hj hj2
          rw [hg j hj2, if_neg (by omega)]
          exact hge j (by omega) hj2
        · have hVi : hb_V (hb_g B2 w) i = hb_V (hb_g B w) i := hb_V_congr (fun j hj => by rw [hg j (by omega), if_neg (by omega)])
          simp only [hb_V]
          rw [hVi, hg i (by omega), if_pos rfl, hcr2, Int.pow_succ]
          have hdm : x % 16777216 + 16777216 * (x / 16777216) = x := Int.emod_add_mul_ediv x 16777216
          have e3 : (x % 16777216) * 16777216 ^ i + x / 16777216 * (16777216 ^ i * 16777216) = x * 16777216 ^ i := by
            have : x * 16777216 ^ i = (x % 16777216 + 16777216 * (x / 16777216)) * 16777216 ^ i := by rw [hdm]
            rw [this]
            grind
          have e4 : x * 16777216 ^ i = hb_at A w i * 16777216 ^ i + hb_at A u i * 16777216 ^ i + cr * 16777216 ^ i := by
            rw [hx]
            grind
          omega
    exact key _ 0 A 0 rfl (by omega) (Or.inl rfl) (hb_X_refl _ A) rfl rfl (fun j hj => by omega) (fun j _ _ => rfl) (by simp [hb_V])
  refine ⟨⟨h0, h1⟩, ⟨k0, k1⟩, hb_P_n hPw, hb_P_n hPu, fun c => ⟨⟨k0, k1⟩, ?_⟩, fun c => ⟨⟨h0, h1⟩, ?_⟩⟩
  · refine main _ c (Int.le_refl _) hl2 (fun hp => ?_)
    have := hb_z_ge hu hp
    omega
  · refine main _ (Int.le_refl _) (by omega) hl1 (fun hp => ?_)
    have := hb_z_ge hw hp
    omega
theorem wq_bigDiffer {z : Nat → Int} {A : Nat → Nat → Int} {w u tn : Int} {Q : (Nat → Nat → Int) → Prop} (h0 : 0 ≤ w) (h1 : w < 4250) (k0 : 0 ≤ u) (k1 : u < 4250) (hwu : u ≠ w) (hw : hb_W A w) (hu : hb_W A u) (hl2 : A 1 u.toNat ≤ hb_r w) (htn : tn = 0 ∨ tn = 1)
    (hle : if tn = 0 then hb_z A u ≤ hb_z A w else hb_z A w ≤ hb_z A u)
    (hQ : ∀ B, hb_X (fun x => x = w) A B → hb_W B w → hb_z B w = (if tn = 0 then hb_z A w - hb_z A u else hb_z A u - hb_z A w) → B 2 w.toNat = A 2 w.toNat → Q B) : wp_bigDiffer z A w u tn Q := by
  have hr := hb_r_pos w
  have hlw := hw.1
  have hlu := hu.1
  have hPw := hb_W_P hw
  have hPu := hb_W_P hu
  have main : ∀ most : Int, A 1 w.toNat ≤ most → A 1 u.toNat ≤ most → most ≤ hb_r w → wp_bigDiffer_38 z A w u tn most 0 0 Q := by
    intro most m1 m2 m3 P hP
    have key : ∀ (k i : Nat) (B : Nat → Nat → Int) (bo : Int), most.toNat - i = k → (i : Int) ≤ most → (bo = 0 ∨ bo = 1) → hb_X (fun x => x = w) A B → B 1 w.toNat = A 1 w.toNat → B 2 w.toNat = A 2 w.toNat → hb_D (hb_g B w) i → (∀ j : Nat, i ≤ j → (j : Int) < hb_r w → hb_g B w j = hb_g A w j) →
        hb_V (hb_g B w) i - bo * 16777216 ^ i = (if tn = 0 then hb_V (fun j => hb_at A w j) i - hb_V (fun j => hb_at A u j) i else hb_V (fun j => hb_at A u j) i - hb_V (fun j => hb_at A w j) i) → P B bo (i : Int) := by
      intro k
      induction k with
      | zero =>
        intro i B bo hk hi hbo hX hB1 hB2 hD hge hV
        have ei : most.toNat = i := by omega
        have ew := hb_V_at (A := A) (w := w) (n := i) (by omega) (by omega)
        have eu := hb_V_at (A := A) (w := u) (n := i) (by omega) (by omega)
        rw [ew, eu] at hV
        refine hP B bo i ⟨⟨by omega, by omega⟩, ⟨by omega, by omega⟩, fun c => ⟨⟨h0, h1⟩, fun B2 hB2' => ?_⟩, fun c => by omega⟩
        have e1 : B2 1 w.toNat = most := by rw [hB2']; exact hb_s_same _ _ _ _
        have e2 : B2 2 = B 2 := by rw [hB2']; exact hb_s_other (by decide)
        have e0 : hb_g B2 w = hb_g B w := by unfold hb_g; rw [hB2', hb_s_other (by decide)]
        have hrg := hb_V_range hD
        have hp := hb_pow_pos i
        have hb0 : bo = 0 := by
          rcases hbo with e | e
          · exact e
          · rw [e] at hV
            split at hV <;> rename_i ht <;> simp [ht] at hle <;> omega
        refine wq_bigTrim h0 h1 ⟨by rw [e1]; omega, by rw [e2, hB2]; exact hw.2.1, by rw [e0, e1, ei]; exact hD⟩ (fun B3 hX3 hW3 hz3 hs3 _ => ?_)
        refine hQ B3 (hb_X_trans (hb_X_trans hX (by rw [hB2']; exact hb_X_s1 h0)) hX3) hW3 ?_ (by rw [hs3, e2]; exact hB2)
        rw [hz3, ← hV, hb0]
        unfold hb_z
        rw [e0, e1, ei]
        omega
      | succ k ih =>
        intro i B bo hk hi hbo hX hB1 hB2 hD hge hV
        have hBu := hX.2 u k0 k1 hwu
        have hPB : hb_P B w := ⟨by rw [hB1]; exact hw.1, by rw [hB2]; exact hw.2.1, by
          rw [hB1]
          intro j hj
          by_cases e : j < i
          · exact hD j e
          · rw [hge j (by omega) (by omega)]
            exact hw.2.2.1 j hj⟩
        have hPBu : hb_P B u := hb_W_P (hb_X_W hX k0 k1 hwu hu)
        have ea : hb_at B w i = hb_at A w i := by
          have := hge i (Nat.le_refl i) (by omega)
          unfold hb_g at this
          unfold hb_at
          rw [hB1, this]
        have eb : hb_at B u i = hb_at A u i := by
          unfold hb_at
          rw [hBu.1]
          split
          · rfl
          · exact hBu.2.2 i (by omega) (by omega)
        have ra := hb_at_range hPw (i := (i : Int)) (by omega)
        have rb := hb_at_range hPu (i := (i : Int)) (by omega)
        have step : ∀ (df : Int), -16777216 < df → df < 16777216 → (df * 16777216 ^ i = (if tn = 0 then hb_at A w i * 16777216 ^ i - hb_at A u i * 16777216 ^ i else hb_at A u i * 16777216 ^ i - hb_at A w i * 16777216 ^ i)) → wp_bigDiffer_82 z B w u tn most bo i df P Q := by
          intro df d1 d2 d3 x hx
          have fin : ∀ (bo2 dg : Int), (bo2 = 0 ∨ bo2 = 1) → 0 ≤ dg → dg < 16777216 → dg - bo2 * 16777216 = x → wp_bigDiffer_125 z B w u tn most bo2 i dg (hb_f w + i) P Q := by
            intro bo2 dg hb2 g1 g2 g3
            refine ⟨hb_f_in h0 h1 (by omega) (by omega), fun B2 hB2' i2 hi2 => ?_⟩
            have hX2 : hb_X (fun x => x = w) A B2 := hb_X_trans hX (by rw [hB2']; exact hb_X_s0 h0 h1 (by omega) (by omega))
            have hg : ∀ j : Nat, (j : Int) < hb_r w → hb_g B2 w j = if j = i then dg else hb_g B w j := fun j hj => by
              rw [hB2', hb_g_s0 h0 h1 (by omega) (by omega) j hj]
              by_cases e : j = i
              · rw [if_pos e, if_pos (by omega)]
              · rw [if_neg e, if_neg (by omega)]
            have e2 : i2 = ((i + 1 : Nat) : Int) := by omega
            rw [e2]
            refine ih (i + 1) B2 bo2 (by omega) (by omega) hb2 hX2 (by rw [hB2', hb_s_other (by decide)]; exact hB1) (by rw [hB2', hb_s_other (by decide)]; exact hB2) ?_ ?_ ?_
            · intro j hj
              rw [hg j (by omega)]
              split
              · omega
              · exact hD j (by omega)
            · intro j hj hj2
              rw [hg j hj2, if_neg (by omega)]
              exact hge j (by omega) hj2
            · have hVi : hb_V (hb_g B2 w) i = hb_V (hb_g B w) i := hb_V_congr (fun j hj => by rw [hg j (by omega), if_neg (by omega)])
              simp only [hb_V]
              rw [hVi, hg i (by omega), if_pos rfl, Int.pow_succ]
              have e3 : dg * 16777216 ^ i - bo2 * (16777216 ^ i * 16777216) = x * 16777216 ^ i := by
                rw [← g3]
                grind
              have e4 : x * 16777216 ^ i = df * 16777216 ^ i - bo * 16777216 ^ i := by
                rw [hx]
                grind
              split at hV <;> rename_i ht <;> simp only [ht, if_true, if_false] at d3 ⊢ <;> omega
          refine ⟨⟨by omega, by omega⟩, fun c => wq_from h0 h1 ⟨⟨by omega, by omega⟩, fun _ => fin 0 x (Or.inl rfl) c (by omega) (by omega), fun c2 => by omega⟩, fun c => wq_from h0 h1 ⟨⟨by omega, by omega⟩, fun c2 => by omega, fun _ => fin 1 (x + 16777216) (Or.inr rfl) (by omega) (by omega) (by omega)⟩⟩
        refine hP B bo i ⟨⟨by omega, by omega⟩, ⟨by omega, by omega⟩, fun c => by omega, fun c => ⟨⟨by omega, by omega⟩, fun t0 => wq_bigAt h0 h1 hPB (by omega) (by omega) (wq_bigAt k0 k1 hPBu (by omega) (by omega) ?_), fun t1 => wq_bigAt k0 k1 hPBu (by omega) (by omega) (wq_bigAt h0 h1 hPB (by omega) (by omega) ?_)⟩⟩
        · rw [ea, eb]
          exact step _ (by omega) (by omega) (by rw [if_pos t0, Int.sub_mul])
        · rw [ea, eb]
          exact step _ (by omega) (by omega) (by rw [if_neg t1, Int.sub_mul])
    exact key _ 0 A 0 rfl (by omega) (Or.inl rfl) (hb_X_refl _ A) rfl rfl (fun j hj => by omega) (fun j _ _ => rfl) (by simp [hb_V])
  refine ⟨⟨h0, h1⟩, ⟨k0, k1⟩, hb_P_n hPw, hb_P_n hPu, fun c => ⟨⟨k0, k1⟩, main _ c (Int.le_refl _) hl2⟩, fun c => ⟨⟨h0, h1⟩, main _ (Int.le_refl _) (by omega) hlw.2⟩⟩
theorem wq_bigAdd {z : Nat → Int} {A : Nat → Nat → Int} {w u le : Int} {Q : (Nat → Nat → Int) → Prop} (h0 : 0 ≤ w) (h1 : w < 4250) (k0 : 0 ≤ u) (k1 : u < 4250) (hwu : u ≠ w) (hw : hb_W A w) (hu : hb_W A u) (hl1 : A 1 w.toNat < hb_r w) (hl2 : A 1 u.toNat < hb_r w) (hle : le = 0 ∨ le = 1)
    (hQ : ∀ B, hb_X (fun x => x = w) A B → hb_W B w → hb_v B w = (if le = 0 then hb_v A w + hb_v A u else hb_v A w - hb_v A u) → Q B) : wp_bigAdd z A w u le Q := by
  have sw := hw.2.1
  have su := hu.2.1
  have main : ∀ ot : Int, (ot = 0 ∨ ot = 1) → ((if ot = 0 then hb_z A u else - hb_z A u) = if le = 0 then hb_v A u else - hb_v A u) → wp_bigAdd_15 z A w u ot Q := by
    intro ot hot heq
    have hQ2 : ∀ B, hb_X (fun x => x = w) A B → hb_W B w → hb_v B w = hb_v A w + (if ot = 0 then hb_z A u else - hb_z A u) → Q B := fun B hX hW hv => hQ B hX hW (by
      rw [hv, heq]
      split <;> omega)
    refine ⟨⟨h0, h1⟩, hb_P_m (hb_W_P hw), ⟨by omega, by omega⟩, fun ne => wq_bigSizes h0 h1 k0 k1 hw hu ⟨hb_c_r _ _, fun c => ?_, fun c => ?_⟩, fun e => ?_⟩
    · have hlt : hb_z A w < hb_z A u := by
        unfold hb_c at c
        split at c
        · assumption
        · split at c <;> omega
      refine wq_bigDiffer h0 h1 k0 k1 hwu hw hu (by omega) (Or.inr rfl) (by simp; omega) (fun B hX hW hz hs => ⟨⟨h0, h1⟩, hot, fun B6 hB6 => ?_⟩)
      simp at hz
      have hX6 : hb_X (fun x => x = w) B B6 := by rw [hB6]; exact hb_X_s2 h0
      have e2 : B6 2 w.toNat = ot := by rw [hB6]; exact hb_s_same _ _ _ _
      have e1 : B6 1 = B 1 := by rw [hB6]; exact hb_s_other (by decide)
      have e0 : hb_g B6 w = hb_g B w := by unfold hb_g; rw [hB6, hb_s_other (by decide)]
      have ez : hb_z B6 w = hb_z B w := by unfold hb_z; rw [e0, e1]
      refine hQ2 B6 (hb_X_trans hX hX6) ⟨by rw [e1]; exact hW.1, by rw [e2]; exact hot, by rw [e0, e1]; exact hW.2.2.1, by rw [e0, e1]; exact hW.2.2.2⟩ ?_
      unfold hb_v
      rw [e2, ez, hz]
      rcases hot with x | x <;> rcases sw with y | y <;> simp [x, y] at ne ⊢ <;> omega
    · have hge : hb_z A u ≤ hb_z A w := by
        unfold hb_c at c
        split at c
        · omega
        · omega
      refine wq_bigDiffer h0 h1 k0 k1 hwu hw hu (by omega) (Or.inl rfl) (by simp; omega) (fun B hX hW hz hs => ?_)
      simp at hz
      refine hQ2 B hX hW ?_
      unfold hb_v
      rw [hs, hz]
      rcases hot with x | x <;> rcases sw with y | y <;> simp [x, y] at ne ⊢ <;> omega
    · refine wq_bigMore h0 h1 k0 k1 hwu hw hu hl1 hl2 (fun B hX hW hz hs => hQ2 B hX hW ?_)
      unfold hb_v
      rw [hs, hz, e]
      split <;> omega
  refine ⟨⟨k0, k1⟩, hb_P_m (hb_W_P hu), ⟨by omega, by omega⟩, fun c => main 0 (Or.inl rfl) ?_, fun c => main 1 (Or.inr rfl) ?_⟩
  · unfold hb_v
    rw [c]
    rcases hle with x | x <;> simp [x]
  · unfold hb_v
    rcases hle with x | x <;> rcases su with y | y <;> simp [x, y] at c ⊢

-- 34.bigmul
theorem hb_V_set {g h : Nat → Int} {n q : Nat} {v : Int} (hq : q < n) (e : ∀ j, j < n → h j = if j = q then v else g j) : hb_V h n = hb_V g n + (v - g q) * 16777216 ^ q := by
  induction n with
  | zero => omega
  | succ n ih =>
    simp only [hb_V]
    by_cases c : q = n
    · subst c
      rw [hb_V_congr (fun j hj => by rw [e j (by omega), if_neg (by omega)] : ∀ j, j < q → h j = g j), e q (by omega), if_pos rfl, Int.sub_mul]
      omega
    · rw [ih (by omega) (fun j hj => e j (by omega)), e n (by omega), if_neg (by omega)]
      omega
theorem hb_V_zeros {g : Nat → Int} {n m : Nat} (hnm : n ≤ m) (h : ∀ j, n ≤ j → j < m → g j = 0) : hb_V g m = hb_V g n := by
  induction m with
  | zero =>
    have : n = 0 := by omega
    subst this
    rfl
  | succ m ih =>
    by_cases c : n = m + 1
    · subst c
      rfl
    · simp only [hb_V]
      rw [ih (by omega) (fun j h1 h2 => h j h1 (by omega)), h m (by omega) (by omega)]
      omega
theorem hb_mul_lt {a b : Int} (h1 : 0 ≤ a) (h2 : a < 16777216) (h3 : 0 ≤ b) (h4 : b < 16777216) : 0 ≤ a * b ∧ a * b ≤ 281474943156225 := by
  refine ⟨Int.mul_nonneg h1 h3, ?_⟩
  have k1 : a * b ≤ 16777215 * b := Int.mul_le_mul_of_nonneg_right (by omega) h3
  omega
theorem wq_bigProduct {z : Nat → Int} {A : Nat → Nat → Int} {w a b : Int} {Q : (Nat → Nat → Int) → Prop} (h0 : 0 ≤ w) (h1 : w < 4250) (a0 : 0 ≤ a) (a1 : a < 4250) (b0 : 0 ≤ b) (b1 : b < 4250) (haw : a ≠ w) (hbw : b ≠ w) (ha : hb_W A a) (hb : hb_W A b) (hl : A 1 a.toNat + A 1 b.toNat ≤ hb_r w)
    (hQ : ∀ B, hb_X (fun x => x = w) A B → hb_W B w → hb_v B w = hb_v A a * hb_v A b → hb_z B w = hb_z A a * hb_z A b → Q B) : wp_bigProduct z A w a b Q := by
  have hr := hb_r_pos w
  have hla := ha.1
  have hlb := hb.1
  have da := ha.2.2.1
  have db := hb.2.2.1
  refine ⟨⟨a0, a1⟩, ⟨b0, b1⟩, ⟨h0, h1⟩, fun A22 hA22 => ?_⟩
  have hX22 : hb_X (fun x => x = w) A A22 := by rw [hA22]; exact hb_X_s1 h0
  have e22 : A22 1 w.toNat = A 1 a.toNat + A 1 b.toNat := by rw [hA22]; exact hb_s_same _ _ _ _
  obtain ⟨la, hla'⟩ : ∃ n : Nat, (A 1 a.toNat).toNat = n := ⟨_, rfl⟩
  obtain ⟨lb, hlb'⟩ : ∃ n : Nat, (A 1 b.toNat).toNat = n := ⟨_, rfl⟩
  have ela : A 1 a.toNat = (la : Int) := by omega
  have elb : A 1 b.toNat = (lb : Int) := by omega
  rw [hla'] at da
  rw [hlb'] at db
  -- what stays the same
  have keep : ∀ B, hb_X (fun x => x = w) A B → B 1 a.toNat = (la : Int) ∧ B 1 b.toNat = (lb : Int) ∧ (∀ i : Nat, i < la → B 0 (hb_f a + i).toNat = hb_g A a i) ∧ (∀ i : Nat, i < lb → B 0 (hb_f b + i).toNat = hb_g A b i) := fun B hX =>
    ⟨by rw [(hX.2 a a0 a1 haw).1]; exact ela, by rw [(hX.2 b b0 b1 hbw).1]; exact elb, fun i hi => (hX.2 a a0 a1 haw).2.2 i (by omega) (by omega), fun i hi => (hX.2 b b0 b1 hbw).2.2 i (by omega) (by omega)⟩
  have outer : ∀ B, hb_X (fun x => x = w) A B → B 1 w.toNat = (la : Int) + lb → (∀ j, j < la + lb → hb_g B w j = 0) → wp_bigProduct_55 z B w a b 0 Q := by
    intro B0 hX0 hB01 hzero P hP
    have key : ∀ (k i : Nat) (B : Nat → Nat → Int), la - i = k → i ≤ la → hb_X (fun x => x = w) A B → B 1 w.toNat = (la : Int) + lb → hb_D (hb_g B w) (la + lb) → (∀ j, i + lb ≤ j → j < la + lb → hb_g B w j = 0) → hb_V (hb_g B w) (i + lb) = hb_V (hb_g A a) i * hb_V (hb_g A b) lb → P B (i : Int) := by
      intro k
      induction k with
      | zero =>
        intro i B hk hi hX hB1 hD hzr hV
        have ei : i = la := by omega
        subst ei
        obtain ⟨c1, c2, c3, c4⟩ := keep B hX
        have m1 := (hX.2 a a0 a1 haw).2.1
        have m2 := (hX.2 b b0 b1 hbw).2.1
        have fin : ∀ sg : Int, (sg = 0 ∨ sg = 1) → ((if sg = 0 then (1 : Int) else -1) = (if A 2 a.toNat = 0 then 1 else -1) * (if A 2 b.toNat = 0 then 1 else -1)) → wp_bigProduct_217 z B w sg w Q := by
          intro sg hsg hmul
          refine ⟨⟨h0, h1⟩, hsg, fun B1 hB1' => ?_⟩
          have e2 : B1 2 w.toNat = sg := by rw [hB1']; exact hb_s_same _ _ _ _
          have e1 : B1 1 = B 1 := by rw [hB1']; exact hb_s_other (by decide)
          have e0 : hb_g B1 w = hb_g B w := by unfold hb_g; rw [hB1', hb_s_other (by decide)]
          have en : ((i : Int) + lb).toNat = i + lb := by omega
          refine wq_bigTrim h0 h1 ⟨by rw [e1, hB1]; omega, by rw [e2]; exact hsg, by rw [e0, e1, hB1, en]; exact hD⟩ (fun B3 hX3 hW3 hz3 hs3 _ => ?_)
          have hz : hb_z B3 w = hb_z A a * hb_z A b := by
            rw [hz3]
            unfold hb_z
            rw [e0, e1, hB1, en, hV, hla', hlb']
          refine hQ B3 (hb_X_trans (hb_X_trans hX (by rw [hB1']; exact hb_X_s2 h0)) hX3) hW3 ?_ hz
          unfold hb_v
          rw [hs3, e2, hz]
          rcases hsg with x | x <;> rcases ha.2.1 with y | y <;> rcases hb.2.1 with y2 | y2 <;> simp [x, y, y2, Int.neg_mul, Int.mul_neg] at hmul ⊢
        refine hP B i ⟨⟨a0, a1⟩, ⟨by omega, by omega⟩, by rw [c1]; exact ⟨by omega, by omega⟩, fun c => ⟨⟨a0, a1⟩, ⟨b0, b1⟩, ?_, ?_, fun e => ?_, fun ne => ?_⟩, fun c => by rw [c1] at c; omega⟩
        · rw [m1]; exact hb_P_m (hb_W_P ha)
        · rw [m2]; exact hb_P_m (hb_W_P hb)
        · rw [m1, m2] at e
          exact fin 0 (Or.inl rfl) (by rcases hb.2.1 with y2 | y2 <;> simp [e, y2])
        · rw [m1, m2] at ne
          refine fin 1 (Or.inr rfl) ?_
          rcases ha.2.1 with y | y <;> rcases hb.2.1 with y2 | y2 <;> simp [y, y2] at ne ⊢
      | succ k ih =>
        intro i B hk hi hX hB1 hD hzr hV
        obtain ⟨c1, c2, c3, c4⟩ := keep B hX
        have rai := da i (by omega)
        refine hP B i ⟨⟨a0, a1⟩, ⟨by omega, by omega⟩, by rw [c1]; exact ⟨by omega, by omega⟩, fun c => by rw [c1] at c; omega, fun c => ?_⟩
        intro P2 hP2
        have key2 : ∀ (k2 j : Nat) (B2 : Nat → Nat → Int) (cr : Int), lb - j = k2 → j ≤ lb → 0 ≤ cr → cr < 16777216 → hb_X (fun x => x = w) A B2 → B2 1 w.toNat = (la : Int) + lb → hb_D (hb_g B2 w) (la + lb) → (∀ j, i + lb ≤ j → j < la + lb → hb_g B2 w j = 0) →
            hb_V (hb_g B2 w) (i + lb) + cr * 16777216 ^ (i + j) = hb_V (hb_g A a) i * hb_V (hb_g A b) lb + hb_g A a i * hb_V (hb_g A b) j * 16777216 ^ i → P2 B2 cr (j : Int) := by
          intro k2
          induction k2 with
          | zero =>
            intro j B2 cr hk2 hj cr0 cr1 hX2 hB21 hD2 hzr2 hV2
            have ej : j = lb := by omega
            subst ej
            obtain ⟨d1, d2, d3, d4⟩ := keep B2 hX2
            refine hP2 B2 cr j ⟨⟨b0, b1⟩, ⟨by omega, by omega⟩, by rw [d2]; exact ⟨by omega, by omega⟩, fun c => wq_from h0 h1 ?_, fun c => by rw [d2] at c; omega⟩
            rw [d2]
            have ep : hb_f w + (i : Int) + (j : Int) = hb_f w + ((i + j : Nat) : Int) := by omega
            rw [ep]
            refine ⟨⟨b0, b1⟩, hb_f_in h0 h1 (by omega) (by omega), fun B6 hB6 x hx => ?_⟩
            have hX6 : hb_X (fun x => x = w) A B6 := hb_X_trans hX2 (by rw [hB6]; exact hb_X_s0 h0 h1 (by omega) (by omega))
            have hg : ∀ q : Nat, (q : Int) < hb_r w → hb_g B6 w q = if q = i + j then cr else hb_g B2 w q := fun q hq => by
              rw [hB6, hb_g_s0 h0 h1 (by omega) (by omega) q hq]
              by_cases e : q = i + j
              · rw [if_pos e, if_pos (by omega)]
              · rw [if_neg e, if_neg (by omega)]
            have ex : x = ((i + 1 : Nat) : Int) := by omega
            rw [ex]
            refine ih (i + 1) B6 (by omega) (by omega) hX6 (by rw [hB6, hb_s_other (by decide)]; exact hB21) ?_ ?_ ?_
            · intro q hq
              rw [hg q (by omega)]
              split
              · omega
              · exact hD2 q hq
            · intro q q1 q2
              rw [hg q (by omega), if_neg (by omega)]
              exact hzr2 q (by omega) q2
            · have e1 : i + 1 + j = i + j + 1 := by omega
              rw [e1]
              simp only [hb_V]
              rw [hb_V_congr (fun q hq => by rw [hg q (by omega), if_neg (by omega)] : ∀ q, q < i + j → hb_g B6 w q = hb_g B2 w q), hg (i + j) (by omega), if_pos rfl, hV2]
              grind
          | succ k2 ih2 =>
            intro j B2 cr hk2 hj cr0 cr1 hX2 hB21 hD2 hzr2 hV2
            obtain ⟨d1, d2, d3, d4⟩ := keep B2 hX2
            have rbj := db j (by omega)
            have rij := hD2 (i + j) (by omega)
            have hmul := hb_mul_lt rai.1 rai.2 rbj.1 rbj.2
            refine hP2 B2 cr j ⟨⟨b0, b1⟩, ⟨by omega, by omega⟩, by rw [d2]; exact ⟨by omega, by omega⟩, fun c => by rw [d2] at c; omega, fun c => wq_from h0 h1 (fun x hx => ?_)⟩
            have ep : x = hb_f w + ((i + j : Nat) : Int) := by omega
            subst ep
            have hin := hb_f_in (w := w) (i := ((i + j : Nat) : Int)) h0 h1 (by omega) (by omega)
            have eold : B2 0 (hb_f w + ((i + j : Nat) : Int)).toNat = hb_g B2 w (i + j) := rfl
            rw [eold]
            refine ⟨hin, ⟨by omega, by omega⟩, wq_from a0 a1 ⟨hb_f_in a0 a1 (by omega) (by omega), ?_, wq_from b0 b1 ⟨hb_f_in b0 b1 (by omega) (by omega), ?_, ?_⟩⟩⟩
            · rw [d3 i (by omega)]
              exact ⟨by omega, by omega⟩
            · rw [d4 j (by omega)]
              exact ⟨by omega, by omega⟩
            · rw [d3 i (by omega), d4 j (by omega)]
              intro x5 hx5
              refine ⟨⟨by omega, by omega⟩, hin, fun B13 hB13 => ⟨⟨by omega, by omega⟩, fun cr2 hcr2 j2 hj2 => ?_⟩⟩
              have hx0 : 0 ≤ x5 := by omega
              rw [Int.tdiv_eq_ediv_of_nonneg hx0] at hcr2
              rw [Int.tmod_eq_emod_of_nonneg hx0] at hB13
              have hX13 : hb_X (fun x => x = w) A B13 := hb_X_trans hX2 (by rw [hB13]; exact hb_X_s0 h0 h1 (by omega) (by omega))
              have hg : ∀ q : Nat, (q : Int) < hb_r w → hb_g B13 w q = if q = i + j then x5 % 16777216 else hb_g B2 w q := fun q hq => by
                rw [hB13, hb_g_s0 h0 h1 (by omega) (by omega) q hq]
                by_cases e : q = i + j
                · rw [if_pos e, if_pos (by omega)]
                · rw [if_neg e, if_neg (by omega)]
              have ej2 : j2 = ((j + 1 : Nat) : Int) := by omega
              rw [ej2]
              refine ih2 (j + 1) B13 cr2 (by omega) (by omega) (by omega) (by omega) hX13 (by rw [hB13, hb_s_other (by decide)]; exact hB21) ?_ ?_ ?_
              · intro q hq
                rw [hg q (by omega)]
                split
                · omega
                · exact hD2 q hq
              · intro q q1 q2
                rw [hg q (by omega), if_neg (by omega)]
                exact hzr2 q q1 q2
              · rw [hb_V_set (g := hb_g B2 w) (q := i + j) (v := x5 % 16777216) (by omega) (fun q hq => hg q (by omega)), hcr2]
                have hdm : x5 % 16777216 + 16777216 * (x5 / 16777216) = x5 := Int.emod_add_mul_ediv x5 16777216
                have e1 : i + (j + 1) = i + j + 1 := by omega
                rw [e1, Int.pow_succ]
                simp only [hb_V]
                have e3 : (x5 % 16777216 - hb_g B2 w (i + j)) * 16777216 ^ (i + j) + x5 / 16777216 * (16777216 ^ (i + j) * 16777216) = (x5 - hb_g B2 w (i + j)) * 16777216 ^ (i + j) := by
                  have : (x5 - hb_g B2 w (i + j)) * 16777216 ^ (i + j) = (x5 % 16777216 + 16777216 * (x5 / 16777216) - hb_g B2 w (i + j)) * 16777216 ^ (i + j) := by rw [hdm]
                  rw [this]
                  grind
                have e4 : (x5 - hb_g B2 w (i + j)) * 16777216 ^ (i + j) = cr * 16777216 ^ (i + j) + hb_g A a i * (hb_g A b j * 16777216 ^ j) * 16777216 ^ i := by
                  rw [hx5, Int.pow_add]
                  grind
                have e5 : hb_g A a i * (hb_V (hb_g A b) j + hb_g A b j * 16777216 ^ j) * 16777216 ^ i = hb_g A a i * hb_V (hb_g A b) j * 16777216 ^ i + hb_g A a i * (hb_g A b j * 16777216 ^ j) * 16777216 ^ i := by grind
                omega
        exact key2 _ 0 B 0 rfl (by omega) (by omega) (by omega) hX hB1 hD hzr (by rw [hV]; simp [hb_V])
    refine key _ 0 B0 rfl (by omega) hX0 hB01 (fun j hj => by rw [hzero j hj]; omega) (fun j h1 h2 => hzero j h2) ?_
    rw [hb_V_zeros (n := 0) (m := 0 + lb) (by omega) (fun j _ hj => hzero j (by omega))]
    simp [hb_V]
  intro P hP
  have key : ∀ (k i : Nat) (B : Nat → Nat → Int), la + lb - i = k → i ≤ la + lb → hb_X (fun x => x = w) A B → B 1 w.toNat = (la : Int) + lb → (∀ j, j < i → hb_g B w j = 0) → P B (i : Int) := by
    intro k
    induction k with
    | zero =>
      intro i B hk hi hX hB1 hz
      have ei : i = la + lb := by omega
      subst ei
      exact hP B _ ⟨⟨h0, h1⟩, ⟨by omega, by omega⟩, by rw [hB1]; exact ⟨by omega, by omega⟩, fun c => outer B hX hB1 hz, fun c => by rw [hB1] at c; omega⟩
    | succ k ih =>
      intro i B hk hi hX hB1 hz
      refine hP B _ ⟨⟨h0, h1⟩, ⟨by omega, by omega⟩, by rw [hB1]; exact ⟨by omega, by omega⟩, fun c => by rw [hB1] at c; omega, fun c => wq_from h0 h1 ⟨hb_f_in h0 h1 (by omega) (by omega), fun B2 hB2 x hx => ?_⟩⟩
      have ex : x = ((i + 1 : Nat) : Int) := by omega
      rw [ex]
      refine ih (i + 1) B2 (by omega) (by omega) (hb_X_trans hX (by rw [hB2]; exact hb_X_s0 h0 h1 (by omega) (by omega))) (by rw [hB2, hb_s_other (by decide)]; exact hB1) (fun j hj => ?_)
      rw [hB2, hb_g_s0 h0 h1 (by omega) (by omega) j (by omega)]
      split
      · rfl
      · exact hz j (by omega)
  exact key _ 0 A22 rfl (by omega) hX22 (by rw [e22]; omega) (fun j hj => by omega)

-- 35.biglose
theorem wq_bigLose {z : Nat → Int} {A : Nat → Nat → Int} {w u t : Int} {p : Nat} {Q : (Nat → Nat → Int) → Prop} (h0 : 0 ≤ w) (h1 : w < 4250) (k0 : 0 ≤ u) (k1 : u < 4250) (hwu : u ≠ w) (hw : hb_W A w) (hu : hb_W A u) (t0 : 0 ≤ t) (t1 : t < 16777216) (hup : A 1 u.toNat + p ≤ A 1 w.toNat) (hle : t * hb_z A u * 16777216 ^ p ≤ hb_z A w)
    (hQ : ∀ B, hb_X (fun x => x = w) A B → hb_W B w → hb_z B w = hb_z A w - t * hb_z A u * 16777216 ^ p → B 2 w.toNat = A 2 w.toNat → Q B) : wp_bigLose z A w u t (p : Int) Q := by
  have hr := hb_r_pos w
  have hlw := hw.1
  have hlu := hu.1
  have hPw := hb_W_P hw
  have hPu := hb_W_P hu
  obtain ⟨n, hn⟩ : ∃ n : Nat, (A 1 w.toNat).toNat = n := ⟨_, rfl⟩
  have en : A 1 w.toNat = (n : Int) := by omega
  have dw := hw.2.2.1
  rw [hn] at dw
  intro P hP
  have key : ∀ (k j : Nat) (B : Nat → Nat → Int) (bo : Int), n - (p + j) = k → p + j ≤ n → 0 ≤ bo → bo ≤ 16777216 → hb_X (fun x => x = w) A B → B 1 w.toNat = (n : Int) → B 2 w.toNat = A 2 w.toNat → hb_D (hb_g B w) n → (∀ q : Nat, p + j ≤ q → (q : Int) < hb_r w → hb_g B w q = hb_g A w q) →
      hb_V (hb_g B w) (p + j) - bo * 16777216 ^ (p + j) = hb_V (hb_g A w) (p + j) - t * hb_V (fun q => hb_at A u q) j * 16777216 ^ p → P B bo ((p + j : Nat) : Int) := by
    intro k
    induction k with
    | zero =>
      intro j B bo hk hj b0 b1 hX hB1 hB2 hD hge hV
      have ej : p + j = n := by omega
      rw [ej] at hV ⊢
      refine hP B bo n ⟨⟨h0, h1⟩, ⟨by omega, by omega⟩, by rw [hB1]; exact ⟨by omega, by omega⟩, fun c => ?_, fun c => by rw [hB1] at c; omega⟩
      have eu := hb_V_at (A := A) (w := u) (n := j) (by omega) (by omega)
      rw [eu] at hV
      have ez : hb_V (hb_g A w) n = hb_z A w := by unfold hb_z; rw [hn]
      rw [ez] at hV
      have hrg := hb_V_range hD
      have hpn := hb_pow_pos n
      have hb0 : bo = 0 := by
        apply Classical.byContradiction
        intro hne
        have h5 : 1 * 16777216 ^ n ≤ bo * 16777216 ^ n := Int.mul_le_mul_of_nonneg_right (by omega) (by omega)
        omega
      refine wq_bigTrim h0 h1 ⟨by rw [hB1]; omega, by rw [hB2]; exact hw.2.1, by rw [hB1]; exact hD⟩ (fun B3 hX3 hW3 hz3 hs3 _ => ?_)
      refine hQ B3 (hb_X_trans hX hX3) hW3 ?_ (by rw [hs3]; exact hB2)
      rw [hz3, ← hV, hb0]
      unfold hb_z
      rw [hB1]
      simp
    | succ k ih =>
      intro j B bo hk hj b0 b1 hX hB1 hB2 hD hge hV
      have hBu := hX.2 u k0 k1 hwu
      have rg := hD (p + j) (by omega)
      have eg := hge (p + j) (Nat.le_refl _) (by omega)
      have ra := hb_at_range hPu (i := (j : Int)) (by omega)
      have step : wp_bigLose_70 z B w u t (p : Int) ((p + j : Nat) : Int) (t * hb_at A u j) (hb_g B w (p + j) - bo) P Q := by
        have hm := hb_mul_lt t0 t1 ra.1 ra.2
        intro x hx
        refine ⟨⟨by omega, by omega⟩, fun dg hdg => ⟨⟨by omega, by omega⟩, fun bo2 hbo2 => wq_from h0 h1 ⟨hb_f_in h0 h1 (by omega) (by omega), fun B2 hB2' i2 hi2 => ?_⟩⟩⟩
        have hX2 : hb_X (fun x => x = w) A B2 := hb_X_trans hX (by rw [hB2']; exact hb_X_s0 h0 h1 (by omega) (by omega))
        have hg : ∀ q : Nat, (q : Int) < hb_r w → hb_g B2 w q = if q = p + j then dg else hb_g B w q := fun q hq => by
          rw [hB2', hb_g_s0 h0 h1 (by omega) (by omega) q hq]
          by_cases e : q = p + j
          · rw [if_pos e, if_pos (by omega)]
          · rw [if_neg e, if_neg (by omega)]
        have e2 : i2 = ((p + (j + 1) : Nat) : Int) := by omega
        have hq : dg - bo2 * 16777216 = x := by omega
        rw [e2]
        refine ih (j + 1) B2 bo2 (by omega) (by omega) (by omega) (by omega) hX2 (by rw [hB2', hb_s_other (by decide)]; exact hB1) (by rw [hB2', hb_s_other (by decide)]; exact hB2) ?_ ?_ ?_
        · intro q hq
          rw [hg q (by omega)]
          split
          · omega
          · exact hD q hq
        · intro q q1 q2
          rw [hg q q2, if_neg (by omega)]
          exact hge q (by omega) q2
        · have e1 : p + (j + 1) = p + j + 1 := by omega
          rw [e1]
          simp only [hb_V]
          rw [hb_V_congr (fun q hq => by rw [hg q (by omega), if_neg (by omega)] : ∀ q, q < p + j → hb_g B2 w q = hb_g B w q), hg (p + j) (by omega), if_pos rfl, Int.pow_succ]
          have e3 : dg * 16777216 ^ (p + j) - bo2 * (16777216 ^ (p + j) * 16777216) = x * 16777216 ^ (p + j) := by
            rw [← hq]
            grind
          have e4 : x * 16777216 ^ (p + j) = hb_g A w (p + j) * 16777216 ^ (p + j) - bo * 16777216 ^ (p + j) - t * (hb_at A u j * 16777216 ^ j) * 16777216 ^ p := by
            rw [hx, eg, Int.pow_add]
            grind
          have e5 : t * (hb_V (fun q => hb_at A u q) j + hb_at A u j * 16777216 ^ j) * 16777216 ^ p = t * hb_V (fun q => hb_at A u q) j * 16777216 ^ p + t * (hb_at A u j * 16777216 ^ j) * 16777216 ^ p := by grind
          omega
      have eold : B 0 (hb_f w + ((p + j : Nat) : Int)).toNat = hb_g B w (p + j) := rfl
      refine hP B bo _ ⟨⟨h0, h1⟩, ⟨by omega, by omega⟩, by rw [hB1]; exact ⟨by omega, by omega⟩, fun c => by rw [hB1] at c; omega, fun c => wq_from h0 h1 ⟨hb_f_in h0 h1 (by omega) (by omega), ?_, ⟨k0, k1⟩, ⟨by omega, by omega⟩, by rw [hBu.1]; exact hb_P_n hPu, fun d => ?_, fun d => wq_from k0 k1 ?_⟩⟩
      · rw [eold]
        exact ⟨by omega, by omega⟩
      · rw [hBu.1] at d
        have ea : hb_at A u j = 0 := if_pos (by omega)
        rw [ea, Int.mul_zero] at step
        exact step
      · rw [hBu.1] at d
        have ep : (hb_f u + ((p + j : Nat) : Int)) - (p : Int) = hb_f u + (j : Int) := by omega
        have ea : B 0 (hb_f u + (j : Int)).toNat = hb_at A u j := by
          rw [hBu.2.2 j (by omega) (by omega)]
          exact (if_neg (by omega)).symm
        rw [ep, ea]
        exact ⟨hb_f_in k0 k1 (by omega) (by omega), ⟨by omega, by omega⟩, step⟩
  exact key _ 0 A 0 rfl (by omega) (by omega) (by omega) (hb_X_refl _ A) en rfl dw (fun _ _ _ => rfl) (by simp [hb_V])
theorem hb_V_shift (f : Nat → Int) (p n : Nat) : hb_V (fun j => if j < p then 0 else f (j - p)) (p + n) = hb_V f n * 16777216 ^ p := by
  induction n with
  | zero =>
    rw [hb_V_zeros (n := 0) (m := p + 0) (by omega) (fun j _ hj => if_pos (by omega))]
    simp [hb_V]
  | succ n ih =>
    have e : p + (n + 1) = p + n + 1 := by omega
    rw [e]
    simp only [hb_V]
    rw [ih, if_neg (by omega), show p + n - p = n by omega, Int.pow_add]
    grind
theorem hb_V_le {g h : Nat → Int} {n : Nat} (e : ∀ j, j < n → h j ≤ g j) : hb_V h n ≤ hb_V g n := by
  induction n with
  | zero => exact Int.le_refl _
  | succ n ih =>
    simp only [hb_V]
    have h1 := ih (fun j hj => e j (by omega))
    have h2 : h n * 16777216 ^ n ≤ g n * 16777216 ^ n := Int.mul_le_mul_of_nonneg_right (e n (by omega)) (Int.le_of_lt (hb_pow_pos n))
    omega
theorem hb_shift_lt {A : Nat → Nat → Int} {w u : Int} (hw : hb_W A w) (hu : hb_W A u) (hu0 : 0 < hb_z A u) {p : Nat} (h : A 1 w.toNat < A 1 u.toNat + p) : hb_z A w < hb_z A u * 16777216 ^ p := by
  have hl : 0 < A 1 u.toNat := by
    have h1 : A 1 u.toNat ≠ 0 := fun e => by have := (hb_z_zero hu).mp e; omega
    have := hu.1
    omega
  have h1 := hb_z_lt (hb_W_P hw)
  have h2 := hb_z_ge hu hl
  have h3 : (16777216 : Int) ^ (A 1 w.toNat).toNat ≤ 16777216 ^ ((A 1 u.toNat).toNat - 1 + p) := hb_pow_le (by have := hw.1; omega)
  rw [Int.pow_add] at h3
  have h4 : 16777216 ^ ((A 1 u.toNat).toNat - 1) * 16777216 ^ p ≤ hb_z A u * 16777216 ^ p := Int.mul_le_mul_of_nonneg_right h2 (Int.le_of_lt (hb_pow_pos p))
  omega
theorem hb_shift_gt {A : Nat → Nat → Int} {w u : Int} (hw : hb_W A w) (hu : hb_W A u) {p : Nat} (h : A 1 u.toNat + p < A 1 w.toNat) : hb_z A u * 16777216 ^ p < hb_z A w := by
  have h1 := hb_z_lt (hb_W_P hu)
  have h2 := hb_z_ge hw (by have := hu.1; omega)
  have h3 : (16777216 : Int) ^ ((A 1 u.toNat).toNat + p) ≤ 16777216 ^ ((A 1 w.toNat).toNat - 1) := hb_pow_le (by have := hu.1; omega)
  rw [Int.pow_add] at h3
  have h4 : hb_z A u * 16777216 ^ p < 16777216 ^ (A 1 u.toNat).toNat * 16777216 ^ p := Int.mul_lt_mul_of_pos_right h1 (hb_pow_pos p)
  omega
theorem wq_bigHolds {z : Nat → Int} {A : Nat → Nat → Int} {w u : Int} {p : Nat} {Q : Int → Prop} (h0 : 0 ≤ w) (h1 : w < 4250) (k0 : 0 ≤ u) (k1 : u < 4250) (hw : hb_W A w) (hu : hb_W A u) (hu0 : 0 < hb_z A u) (hp : p ≤ 1000) (hQ : Q (if hb_z A u * 16777216 ^ p ≤ hb_z A w then 1 else 0)) : wp_bigHolds z A w u (p : Int) Q := by
  have hr := hb_r_pos w
  have hr2 := hb_r_pos u
  have hlw := hw.1
  have hlu := hu.1
  have hPw := hb_W_P hw
  have hPu := hb_W_P hu
  refine ⟨⟨h0, h1⟩, ⟨k0, k1⟩, hb_P_n hPw, ⟨by omega, by omega⟩, fun c => ⟨⟨h0, h1⟩, fun x hx => ?_⟩, fun c => ⟨⟨h0, h1⟩, ⟨k0, k1⟩, hb_P_n hPw, ⟨by omega, by omega⟩, fun d => ?_, fun d => ?_⟩⟩
  · obtain ⟨lu, hlu'⟩ : ∃ n : Nat, (A 1 u.toNat).toNat = n := ⟨_, rfl⟩
    have elu : A 1 u.toNat = (lu : Int) := by omega
    have elw : (A 1 w.toNat).toNat = p + lu := by omega
    have ezw : hb_z A w = hb_V (hb_g A w) (p + lu) := by unfold hb_z; rw [elw]
    have ezu : hb_z A u * 16777216 ^ p = hb_V (fun j => if j < p then 0 else hb_g A u (j - p)) (p + lu) := by
      rw [hb_V_shift]
      unfold hb_z
      rw [hlu']
    have dw := hw.2.2.1
    have du := hu.2.2.1
    rw [elw] at dw
    rw [hlu'] at du
    have dsh : hb_D (fun j => if j < p then 0 else hb_g A u (j - p)) (p + lu) := fun j hj => by
      simp only []
      split
      · omega
      · exact du _ (by omega)
    intro P hP
    have key : ∀ (k : Nat) (i : Int), (i + 1).toNat = k → (p : Int) - 1 ≤ i → i < A 1 w.toNat → (∀ j : Nat, i < j → j < p + lu → hb_g A w j = hb_g A u (j - p)) → P i := by
      intro k
      induction k with
      | zero =>
        intro i hk hi hi2 he
        refine hP i ⟨⟨by omega, by omega⟩, ⟨by omega, by omega⟩, fun d => ⟨⟨by omega, by omega⟩, ⟨by omega, by omega⟩, fun _ => ⟨Or.inr rfl, ?_⟩, fun d2 => by omega⟩, fun d => by omega⟩
        have hle : hb_z A u * 16777216 ^ p ≤ hb_z A w := by
          rw [ezu, ezw]
          refine hb_V_le (fun j hj => ?_)
          split
          · exact (dw j hj).1
          · rw [he j (by omega) hj]
            exact Int.le_refl _
        rw [if_pos hle] at hQ
        exact hQ
      | succ k ih =>
        intro i hk hi hi2 he
        by_cases cp : i < p
        · refine hP i ⟨⟨by omega, by omega⟩, ⟨by omega, by omega⟩, fun d => ⟨⟨by omega, by omega⟩, ⟨by omega, by omega⟩, fun _ => ⟨Or.inr rfl, ?_⟩, fun d2 => by omega⟩, fun d => by omega⟩
          have hle : hb_z A u * 16777216 ^ p ≤ hb_z A w := by
            rw [ezu, ezw]
            refine hb_V_le (fun j hj => ?_)
            split
            · exact (dw j hj).1
            · rw [he j (by omega) hj]
              exact Int.le_refl _
          rw [if_pos hle] at hQ
          exact hQ
        · have ei : ((i.toNat : Nat) : Int) = i := by omega
          have ei2 : ((i.toNat - p : Nat) : Int) = i - p := by omega
          have a1 := hb_at_g (A := A) (w := w) (i := i.toNat) (by omega)
          have a2 := hb_at_g (A := A) (w := u) (i := i.toNat - p) (by omega)
          rw [ei] at a1
          rw [ei2] at a2
          have r1 := hb_at_range hPw (i := i) (by omega)
          have r2 := hb_at_range hPu (i := i - p) (by omega)
          refine hP i ⟨⟨by omega, by omega⟩, ⟨by omega, by omega⟩, fun d => by omega, fun d => wq_bigAt h0 h1 hPw (by omega) (by omega) (wq_bigAt k0 k1 hPu (by omega) (by omega) ?_)⟩
          refine ⟨⟨by omega, by omega⟩, ⟨by omega, by omega⟩, fun ne => ⟨⟨by omega, by omega⟩, ⟨by omega, by omega⟩, fun d2 => by omega, fun _ => ?_⟩, fun eq x2 hx2 => ?_⟩
          · refine wq_bigAt h0 h1 hPw (by omega) (by omega) (wq_bigAt k0 k1 hPu (by omega) (by omega) ?_)
            refine ⟨⟨by omega, by omega⟩, ⟨by omega, by omega⟩, fun le => ⟨Or.inl rfl, ?_⟩, fun gt => ⟨Or.inr rfl, ?_⟩⟩
            · have hlt : hb_z A w < hb_z A u * 16777216 ^ p := by
                rw [ezu, ezw]
                refine hb_V_lt (i := i.toNat) (by omega) dw dsh (fun j j1 j2 => ?_) ?_
                · rw [if_neg (by omega)]
                  exact he j (by omega) j2
                · rw [if_neg (by omega)]
                  omega
              rw [if_neg (by omega)] at hQ
              exact hQ
            · have hlt : hb_z A u * 16777216 ^ p < hb_z A w := by
                rw [ezu, ezw]
                refine hb_V_lt (i := i.toNat) (by omega) dsh dw (fun j j1 j2 => ?_) ?_
                · rw [if_neg (by omega)]
                  exact (he j (by omega) j2).symm
                · rw [if_neg (by omega)]
                  omega
              rw [if_pos (by omega)] at hQ
              exact hQ
          · refine ih x2 (by omega) (by omega) (by omega) (fun j hj hj2 => ?_)
            by_cases e : j = i.toNat
            · subst e
              omega
            · exact he j (by omega) hj2
    exact key _ x rfl (by omega) (by omega) (fun j hj hj2 => by omega)
  · have := hb_shift_lt hw hu hu0 (p := p) (by omega)
    rw [if_neg (by omega)] at hQ
    exact ⟨Or.inl rfl, hQ⟩
  · have := hb_shift_gt hw hu (p := p) (by omega)
    rw [if_pos (by omega)] at hQ
    exact ⟨Or.inr rfl, hQ⟩

-- 36.bigdiv
/-- the digits above p -/
noncomputable def hb_T (g : Nat → Int) (p : Int) : Nat → Int := fun j => if p < j then g j else 0
theorem wq_bigDivide {z : Nat → Int} {A : Nat → Nat → Int} {w u o : Int} {Q : (Nat → Nat → Int) → Prop} (h0 : 0 ≤ w) (h1 : w < 4250) (k0 : 0 ≤ u) (k1 : u < 4250) (o0 : 0 ≤ o) (o1 : o < 4250) (huw : u ≠ w) (huo : u ≠ o) (how : o ≠ w) (hw : hb_W A w) (hu : hb_W A u) (hu0 : 0 < hb_z A u) (hro : A 1 w.toNat - A 1 u.toNat < hb_r o)
    (hQ : ∀ B, hb_X (fun x => x = w ∨ x = o) A B → hb_W B w → hb_W B o → hb_z B o = hb_z A w / hb_z A u → hb_z B w = hb_z A w % hb_z A u → B 2 w.toNat = 0 → B 2 o.toNat = 0 → Q B) : wp_bigDivide z A w u o Q := by
  have hr := hb_r_pos w
  have hr2 := hb_r_pos u
  have hr3 := hb_r_pos o
  have hlw := hw.1
  have hlu := hu.1
  have nw := hb_z_nonneg (hb_W_P hw)
  have lupos : 0 < A 1 u.toNat := by
    have h1 : A 1 u.toNat ≠ 0 := fun e => by have := (hb_z_zero hu).mp e; omega
    omega
  obtain ⟨lu, hlu'⟩ : ∃ n : Nat, (A 1 u.toNat).toNat = n := ⟨_, rfl⟩
  have elu : A 1 u.toNat = (lu : Int) := by omega
  have hwo : w ≠ o := fun e => how e.symm
  have mono1 : ∀ {B C : Nat → Nat → Int}, hb_X (fun x => x = w) B C → hb_X (fun x => x = w ∨ x = o) B C := fun h => hb_X_mono (fun _ e => Or.inl e) h
  have mono2 : ∀ {B C : Nat → Nat → Int}, hb_X (fun x => x = o) B C → hb_X (fun x => x = w ∨ x = o) B C := fun h => hb_X_mono (fun _ e => Or.inr e) h
  have hnu : ¬ (u = w ∨ u = o) := fun e => e.elim huw huo
  -- the top digit of u
  have utop : hb_z A u < (hb_g A u (lu - 1) + 1) * 16777216 ^ (lu - 1) := by
    obtain ⟨k, rfl⟩ : ∃ k, lu = k + 1 := ⟨lu - 1, by omega⟩
    rw [Nat.add_sub_cancel]
    unfold hb_z
    rw [hlu']
    have hd := hu.2.2.1
    rw [hlu'] at hd
    have := (hb_V_range (fun i hi => hd i (by omega) : hb_D (hb_g A u) k)).2
    simp only [hb_V]
    rw [Int.add_mul]
    omega
  have utd : 0 ≤ hb_g A u (lu - 1) ∧ hb_g A u (lu - 1) < 16777216 := hu.2.2.1 (lu - 1) (by omega)
  have main : ∀ (A17 : Nat → Nat → Int) (L : Nat) (up0 : Int), hb_X (fun x => x = w ∨ x = o) A A17 → hb_W A17 w → hb_z A17 w = hb_z A w → A17 2 w.toNat = 0 → A17 2 o.toNat = 0 → A17 1 o.toNat = (L : Int) → (L : Int) ≤ hb_r o → up0 = (L : Int) - 1 → hb_z A w < hb_z A u * 16777216 ^ L → wp_bigDivide_70 z A17 w u o (hb_g A u (lu - 1) + 1) up0 Q := by
    intro A17 L up0 hX17 hW17 hz17 s17 so17 l17 hL hup0 hlt0 P hP
    have key : ∀ (p : Nat) (B : Nat → Nat → Int), p ≤ L → hb_X (fun x => x = w ∨ x = o) A B → hb_W B w → B 2 w.toNat = 0 → B 2 o.toNat = 0 → B 1 o.toNat = (L : Int) → (∀ j : Nat, p ≤ j → j < L → 0 ≤ hb_g B o j ∧ hb_g B o j < 16777216) →
        hb_z B w < hb_z A u * 16777216 ^ p → hb_z B w + hb_V (hb_T (hb_g B o) ((p : Int) - 1)) L * hb_z A u = hb_z A w → P B ((p : Int) - 1) := by
      intro p
      induction p with
      | zero =>
        intro B hpL hX hWw hsw hso hlo hdo hlt hsum
        refine hP B _ ⟨⟨by omega, by omega⟩, fun c => ?_, fun c => by omega⟩
        have nB := hb_z_nonneg (hb_W_P hWw)
        have eT : hb_V (hb_T (hb_g B o) (((0 : Nat) : Int) - 1)) L = hb_V (hb_g B o) L := hb_V_congr (fun j hj => if_pos (by omega))
        rw [eT] at hsum
        refine wq_bigTrim o0 o1 ⟨by rw [hlo]; omega, Or.inl hso, by rw [hlo]; exact fun j hj => hdo j (by omega) (by omega)⟩ (fun B3 hX3 hW3 hz3 hs3 _ => ?_)
        have ezo : hb_z B3 o = hb_V (hb_g B o) L := by
          rw [hz3]
          unfold hb_z
          rw [hlo]
          rfl
        have ezw : hb_z B3 w = hb_z B w := hb_X_z hX3 h0 h1 hwo hWw
        have hlt2 : hb_z B w < hb_z A u := by
          rw [Int.pow_zero, Int.mul_one] at hlt
          exact hlt
        have hdm : hb_z A w / hb_z A u = hb_V (hb_g B o) L ∧ hb_z A w % hb_z A u = hb_z B w :=
          (Int.ediv_emod_unique hu0).mpr ⟨by rw [Int.mul_comm]; omega, nB, hlt2⟩
        refine hQ B3 (hb_X_trans hX (mono2 hX3)) (hb_X_W hX3 h0 h1 hwo hWw) hW3 ?_ ?_ ?_ ?_
        · rw [ezo, hdm.1]
        · rw [ezw, hdm.2]
        · rw [(hX3.2 w h0 h1 hwo).2.1]
          exact hsw
        · rw [hs3]
          exact hso
      | succ p ih =>
        intro B hpL hX hWw hsw hso hlo hdo hlt hsum
        have eup : ((p + 1 : Nat) : Int) - 1 = (p : Int) := by omega
        rw [eup] at hsum ⊢
        have hpp := hb_pow_pos p
        have hup : 0 < hb_z A u * 16777216 ^ p := Int.mul_pos hu0 hpp
        have epow : hb_z A u * 16777216 ^ (p + 1) = 16777216 * (hb_z A u * 16777216 ^ p) := by rw [Int.pow_succ]; grind
        refine hP B _ ⟨⟨by omega, by omega⟩, fun c => by omega, fun c => ?_⟩
        intro P2 hP2
        have key2 : ∀ (k : Nat) (C : Nat → Nat → Int) (al : Int), (hb_z C w).toNat = k → 0 ≤ al → hb_X (fun x => x = w ∨ x = o) A C → hb_W C w → C 2 w.toNat = 0 → C 2 o.toNat = 0 → C 1 o.toNat = (L : Int) → (∀ j : Nat, (j : Int) < hb_r o → hb_g C o j = hb_g B o j) →
            hb_z C w + al * (hb_z A u * 16777216 ^ p) = hb_z B w → P2 C al := by
          intro k
          induction k using Nat.strongRecOn with
          | ind k ih2 =>
            intro C al hk hal hXC hWC hsC hsoC hloC hgC hsumC
            have nC := hb_z_nonneg (hb_W_P hWC)
            have hCu := hXC.2 u k0 k1 hnu
            have hWu : hb_W C u := hb_X_W hXC k0 k1 hnu hu
            have ezu : hb_z C u = hb_z A u := hb_X_z hXC k0 k1 hnu hu
            have hal2 : al < 16777216 := by
              apply Classical.byContradiction
              intro hc
              have : 16777216 * (hb_z A u * 16777216 ^ p) ≤ al * (hb_z A u * 16777216 ^ p) := Int.mul_le_mul_of_nonneg_right (by omega) (by omega)
              omega
            refine hP2 C al (wq_bigHolds h0 h1 k0 k1 hWC hWu (by rw [ezu]; exact hu0) (by omega) ?_)
            rw [ezu]
            refine ⟨by split <;> exact ⟨by decide, by decide⟩, fun r0 => ?_, fun r1 => ?_⟩
            · have hnh : ¬ hb_z A u * 16777216 ^ p ≤ hb_z C w := fun hh => by rw [if_pos hh] at r0; omega
              refine wq_from o0 o1 ⟨hb_f_in o0 o1 (by omega) (by omega), fun A7 hA7 x hx => ?_⟩
              have hX7 : hb_X (fun x => x = o) C A7 := by rw [hA7]; exact hb_X_s0 o0 o1 (by omega) (by omega)
              have hg7 : ∀ j : Nat, (j : Int) < hb_r o → hb_g A7 o j = if j = p then al else hb_g B o j := fun j hj => by
                rw [hA7, hb_g_s0 o0 o1 (by omega) (by omega) j hj]
                by_cases e : j = p
                · rw [if_pos e, if_pos (by omega)]
                · rw [if_neg e, if_neg (by omega)]
                  exact hgC j hj
              have ex : x = (p : Int) - 1 := by omega
              rw [ex]
              have ezw : hb_z A7 w = hb_z C w := hb_X_z hX7 h0 h1 hwo hWC
              refine ih A7 (by omega) (hb_X_trans hXC (mono2 hX7)) (hb_X_W hX7 h0 h1 hwo hWC) (by rw [(hX7.2 w h0 h1 hwo).2.1]; exact hsC) (by rw [hA7, hb_s_other (by decide)]; exact hsoC) (by rw [hA7, hb_s_other (by decide)]; exact hloC) ?_ (by rw [ezw]; omega) ?_
              · intro j j1 j2
                rw [hg7 j (by omega)]
                split
                · omega
                · exact hdo j (by omega) j2
              · have eT : hb_V (hb_T (hb_g A7 o) ((p : Int) - 1)) L = hb_V (hb_T (hb_g B o) (p : Int)) L + (al - hb_T (hb_g B o) (p : Int) p) * 16777216 ^ p := by
                  refine hb_V_set (q := p) (v := al) (by omega) (fun j hj => ?_)
                  unfold hb_T
                  by_cases e : j = p
                  · subst e
                    rw [if_pos rfl, if_pos (by omega), hg7 j (by omega), if_pos rfl]
                  · rw [if_neg e]
                    by_cases e2 : (p : Int) < j
                    · rw [if_pos (by omega), if_pos e2, hg7 j (by omega), if_neg e]
                    · rw [if_neg (by omega), if_neg e2]
                have e0 : hb_T (hb_g B o) (p : Int) p = 0 := if_neg (by omega)
                rw [eT, e0, ezw, ← hsum, ← hsumC]
                grind
            · have hh : hb_z A u * 16777216 ^ p ≤ hb_z C w := by
                apply Classical.byContradiction
                intro hc
                rw [if_neg hc] at r1
                exact r1 rfl
              have hlenC := hWC.1
              have lenlow : (lu : Int) + p ≤ C 1 w.toNat := by
                apply Classical.byContradiction
                intro hc
                have := hb_shift_lt hWC hWu (p := p) (by rw [ezu]; exact hu0) (by rw [hCu.1]; omega)
                rw [ezu] at this
                omega
              have lenhigh : C 1 w.toNat ≤ ((lu + p + 1 : Nat) : Int) := by
                refine hb_len_le hWC ?_
                have h5 : hb_z A u < 16777216 ^ lu := by
                  have := hb_z_lt (hb_W_P hu)
                  rw [hlu'] at this
                  exact this
                have h6 : hb_z A u * 16777216 ^ (p + 1) < 16777216 ^ lu * 16777216 ^ (p + 1) := Int.mul_lt_mul_of_pos_right h5 (hb_pow_pos (p + 1))
                rw [← Int.pow_add] at h6
                have e7 : lu + (p + 1) = lu + p + 1 := by omega
                rw [e7] at h6
                have h8 : 0 ≤ al * (hb_z A u * 16777216 ^ p) := Int.mul_nonneg hal (by omega)
                omega
              -- what is taken away each time
              have lose : ∀ t : Int, 1 ≤ t → t * (hb_z A u * 16777216 ^ p) ≤ hb_z C w → wp_bigDivide_148 z C w u o (hb_g A u (lu - 1) + 1) (p : Int) al t P P2 Q := by
                intro t t1 tle
                have tlt : t < 16777216 := by
                  apply Classical.byContradiction
                  intro hc
                  have h7 : 16777216 * (hb_z A u * 16777216 ^ p) ≤ t * (hb_z A u * 16777216 ^ p) := Int.mul_le_mul_of_nonneg_right (by omega) (by omega)
                  have h8 : 0 ≤ al * (hb_z A u * 16777216 ^ p) := Int.mul_nonneg hal (by omega)
                  omega
                refine wq_bigLose h0 h1 k0 k1 huw hWC hWu (by omega) tlt (by rw [hCu.1]; omega) (by rw [ezu, Int.mul_assoc]; exact tle) (fun C2 hX2 hW2 hz2 hs2 al2 hal2' => ?_)
                rw [ezu, Int.mul_assoc] at hz2
                have hpos : 0 < t * (hb_z A u * 16777216 ^ p) := Int.mul_pos (by omega) hup
                have nC2 := hb_z_nonneg (hb_W_P hW2)
                have hXo := hX2.2 o o0 o1 how
                refine ih2 (hb_z C2 w).toNat (by omega) C2 al2 rfl (by omega) (hb_X_trans hXC (mono1 hX2)) hW2 (by rw [hs2]; exact hsC) (by rw [hXo.2.1]; exact hsoC) (by rw [hXo.1]; exact hloC) (fun j hj => ?_) ?_
                · rw [← hgC j hj]
                  exact hXo.2.2 j (by omega) hj
                · rw [hz2, hal2', ← hsumC]
                  grind
              refine ⟨⟨k0, k1⟩, ?_⟩
              rw [hCu.1, elu]
              have ra := hb_at_range (hb_W_P hWC) (i := (p : Int) + (lu : Int)) (by omega)
              have rb := hb_at_range (hb_W_P hWC) (i := (p : Int) + (lu : Int) - 1) (by omega)
              refine wq_bigAt h0 h1 (hb_W_P hWC) (by omega) (by omega) ⟨⟨by omega, by omega⟩, ⟨k0, k1⟩, wq_bigAt h0 h1 (hb_W_P hWC) (by omega) (by omega) ⟨⟨by omega, by omega⟩, fun x10 hx10 => ⟨by omega, ⟨by omega, by omega⟩, ⟨by omega, by omega⟩, fun x12 hx12 => ?_⟩⟩⟩
              have hx10' : 0 ≤ x10 := by omega
              rw [Int.tdiv_eq_ediv_of_nonneg hx10'] at hx12
              have hq0 : 0 ≤ x12 := by rw [hx12]; exact Int.ediv_nonneg hx10' (by omega)
              have hq1 : x12 * (hb_g A u (lu - 1) + 1) ≤ x10 := by rw [hx12]; exact Int.ediv_mul_le _ (by omega)
              have hq2 : x12 ≤ x10 := by rw [hx12]; exact Int.ediv_le_self _ hx10'
              have hzw : x10 * 16777216 ^ (lu - 1) * 16777216 ^ p ≤ hb_z C w := by
                have hV := hb_V_at (A := C) (w := w) (n := lu + p + 1) (by omega) lenhigh
                obtain ⟨k, rfl⟩ : ∃ k, lu = k + 1 := ⟨lu - 1, by omega⟩
                have e1 : k + 1 + p + 1 = (k + p) + 1 + 1 := by omega
                rw [e1] at hV
                simp only [hb_V] at hV
                have hd : hb_D (fun j => hb_at C w j) (k + p) := fun j _ => hb_at_range (hb_W_P hWC) (by omega)
                have h9 := (hb_V_range hd).1
                rw [Nat.add_sub_cancel]
                have e2 : ((k + p + 1 : Nat) : Int) = (p : Int) + ((k + 1 : Nat) : Int) := by omega
                have e3 : ((k + p : Nat) : Int) = (p : Int) + ((k + 1 : Nat) : Int) - 1 := by omega
                rw [e2, e3] at hV
                rw [← hV, hx10, Int.pow_succ, Int.pow_add]
                have e4 : (hb_at C w (↑p + ↑(k + 1)) * 16777216 + hb_at C w (↑p + ↑(k + 1) - 1)) * 16777216 ^ k * 16777216 ^ p = hb_at C w (↑p + ↑(k + 1) - 1) * (16777216 ^ k * 16777216 ^ p) + hb_at C w (↑p + ↑(k + 1)) * (16777216 ^ k * 16777216 ^ p * 16777216) := by grind
                rw [e4]
                omega
              refine ⟨⟨by omega, by omega⟩, fun c1 => lose x12 c1 ?_, fun c1 => lose 1 (by omega) (by omega)⟩
              have h10 : x12 * hb_z A u ≤ x12 * ((hb_g A u (lu - 1) + 1) * 16777216 ^ (lu - 1)) := Int.mul_le_mul_of_nonneg_left (by omega) hq0
              have h11 : x12 * (hb_g A u (lu - 1) + 1) * 16777216 ^ (lu - 1) ≤ x10 * 16777216 ^ (lu - 1) := Int.mul_le_mul_of_nonneg_right hq1 (Int.le_of_lt (hb_pow_pos _))
              rw [Int.mul_assoc] at h11
              have h12 : x12 * hb_z A u * 16777216 ^ p ≤ x10 * 16777216 ^ (lu - 1) * 16777216 ^ p := Int.mul_le_mul_of_nonneg_right (by omega) (by omega)
              rw [Int.mul_assoc] at h12
              omega
        exact key2 _ B 0 rfl (by omega) hX hWw hsw hso hlo (fun _ _ => rfl) (by omega)
    rw [hup0]
    refine key L A17 (Nat.le_refl L) hX17 hW17 s17 so17 l17 (fun j j1 j2 => by omega) (by rw [hz17]; exact hlt0) ?_
    have eT : hb_V (hb_T (hb_g A17 o) ((L : Int) - 1)) L = 0 := by
      rw [hb_V_zeros (g := hb_T (hb_g A17 o) ((L : Int) - 1)) (n := 0) (m := L) (by omega) (fun j _ hj => if_neg (by omega))]
      rfl
    rw [eT, hz17]
    omega
  refine ⟨⟨h0, h1⟩, fun A20 hA20 => ⟨⟨o0, o1⟩, fun A21 hA21 => ⟨⟨h0, h1⟩, ⟨k0, k1⟩, fun m hm => ?_⟩⟩⟩
  have hX20 : hb_X (fun x => x = w) A A20 := by rw [hA20]; exact hb_X_s2 h0
  have hX21 : hb_X (fun x => x = o) A20 A21 := by rw [hA21]; exact hb_X_s2 o0
  have hX : hb_X (fun x => x = w ∨ x = o) A A21 := hb_X_trans (mono1 hX20) (mono2 hX21)
  have e1 : A21 1 = A 1 := by rw [hA21, hb_s_other (by decide), hA20, hb_s_other (by decide)]
  have e0 : A21 0 = A 0 := by rw [hA21, hb_s_other (by decide), hA20, hb_s_other (by decide)]
  have e2w : A21 2 w.toNat = 0 := by rw [(hX21.2 w h0 h1 hwo).2.1, hA20]; exact hb_s_same _ _ _ _
  have e2o : A21 2 o.toNat = 0 := by rw [hA21]; exact hb_s_same _ _ _ _
  have hW21 : hb_W A21 w := ⟨by rw [e1]; exact hw.1, Or.inl e2w, by unfold hb_g; rw [e1, e0]; exact hw.2.2.1, by unfold hb_g; rw [e1, e0]; exact hw.2.2.2⟩
  have ez21 : hb_z A21 w = hb_z A w := by unfold hb_z hb_g; rw [e1, e0]
  rw [e1] at hm
  have fin : ∀ (L : Nat), (L : Int) ≤ hb_r o → hb_z A w < hb_z A u * 16777216 ^ L → ∀ up0 : Int, (up0 = (L : Int) - 1 ∨ (L = 0 ∧ up0 < 0)) → -1000 ≤ up0 → wp_bigDivide_47 z A21 w u o up0 (L : Int) o Q := by
    intro L hL hlt up0 hup hup2
    refine ⟨⟨o0, o1⟩, fun A17 hA17 => ⟨⟨k0, k1⟩, ?_⟩⟩
    have hXa : hb_X (fun x => x = o) A21 A17 := by rw [hA17]; exact hb_X_s1 o0
    have hX17 : hb_X (fun x => x = w ∨ x = o) A A17 := hb_X_trans hX (mono2 hXa)
    have hWu17 : hb_W A17 u := hb_X_W hX17 k0 k1 hnu hu
    have hu17 := hX17.2 u k0 k1 hnu
    have hW17 : hb_W A17 w := hb_X_W hXa h0 h1 hwo hW21
    have hz17 : hb_z A17 w = hb_z A w := by rw [hb_X_z hXa h0 h1 hwo hW21, ez21]
    have s17 : A17 2 w.toNat = 0 := by rw [(hXa.2 w h0 h1 hwo).2.1]; exact e2w
    have so17 : A17 2 o.toNat = 0 := by rw [hA17, hb_s_other (by decide)]; exact e2o
    have l17 : A17 1 o.toNat = (L : Int) := by rw [hA17]; exact hb_s_same _ _ _ _
    rw [hu17.1, elu]
    have eat : hb_at A17 u ((lu : Int) - 1) = hb_g A u (lu - 1) := by
      have h3 := hb_at_g (A := A17) (w := u) (i := lu - 1) (by rw [hu17.1]; omega)
      have e4 : ((lu - 1 : Nat) : Int) = (lu : Int) - 1 := by omega
      rw [e4] at h3
      rw [h3]
      exact hu17.2.2 ((lu - 1 : Nat) : Int) (by omega) (by omega)
    refine wq_bigAt k0 k1 (hb_W_P hWu17) (by omega) (by omega) ?_
    rw [eat]
    refine ⟨⟨by omega, by omega⟩, fun x5 hx5 => ?_⟩
    rw [hx5]
    rcases hup with e | ⟨e, e'⟩
    · exact main A17 L up0 hX17 hW17 hz17 s17 so17 l17 hL e hlt
    · have hm1 := main A17 L (-1) hX17 hW17 hz17 s17 so17 l17 hL (by omega) hlt
      -- below 0 the loop ends at once, wherever it begins
      intro P hP
      have hst := hm1 (fun B up => up < 0 → ∀ up' : Int, up' < 0 → -1000 ≤ up' → P B up') (fun B up hbody => ?_)
      · exact hst (by omega) up0 e' hup2
      · intro hneg up' hup' hup2'
        exact hP B up' ⟨⟨by omega, by omega⟩, fun _ => hbody.2.1 hneg, fun c => by omega⟩
  refine ⟨⟨by omega, by omega⟩, fun c => ?_, fun c => ?_⟩
  · have eL : m + 1 = (((m + 1).toNat : Nat) : Int) := by omega
    rw [eL]
    refine fin (m + 1).toNat (by omega) ?_ m (Or.inl (by omega)) (by omega)
    have h3 := hb_z_lt (hb_W_P hw)
    have h4 := hb_z_ge hu lupos
    have h5 : (A 1 w.toNat).toNat = ((A 1 u.toNat).toNat - 1) + (m + 1).toNat := by omega
    rw [h5, Int.pow_add] at h3
    have h6 : 16777216 ^ ((A 1 u.toNat).toNat - 1) * 16777216 ^ (m + 1).toNat ≤ hb_z A u * 16777216 ^ (m + 1).toNat := Int.mul_le_mul_of_nonneg_right h4 (Int.le_of_lt (hb_pow_pos _))
    omega
  · refine fin 0 (by omega) ?_ m (Or.inr ⟨rfl, by omega⟩) (by omega)
    have := hb_z_len hw hu (by omega)
    rw [Int.pow_zero, Int.mul_one]
    exact this

-- 37.frac
theorem hb_s2_W {A B : Nat → Nat → Int} {w sg : Int} (hB : B = hz_s A 2 w sg) (hsg : sg = 0 ∨ sg = 1) (hW : hb_W A w) : hb_W B w ∧ hb_z B w = hb_z A w ∧ B 2 w.toNat = sg := by
  have e2 : B 2 w.toNat = sg := by rw [hB]; exact hb_s_same _ _ _ _
  have e1 : B 1 = A 1 := by rw [hB]; exact hb_s_other (by decide)
  have e0 : hb_g B w = hb_g A w := by unfold hb_g; rw [hB, hb_s_other (by decide)]
  refine ⟨⟨by rw [e1]; exact hW.1, by rw [e2]; exact hsg, by rw [e0, e1]; exact hW.2.2.1, by rw [e0, e1]; exact hW.2.2.2⟩, ?_, e2⟩
  unfold hb_z
  rw [e0, e1]
theorem hb_ok_one {A B : Nat → Nat → Int} {w : Int} (hok : hb_ok A) (hX : hb_X (fun x => x = w) A B) (hW : hb_W B w) : hb_ok B := hb_X_ok hX hok (fun u _ _ e => by rw [e]; exact hW)
theorem hb_len_div {A B : Nat → Nat → Int} {w o : Int} {d : Int} (hw : hb_W A w) (ho : hb_W B o) (hd : 0 < d) (hz : hb_z B o = hb_z A w / d) : B 1 o.toNat ≤ A 1 w.toNat := by
  have h1 := hb_z_lt (hb_W_P hw)
  have h2 := hb_z_nonneg (hb_W_P hw)
  have h3 : hb_z A w / d ≤ hb_z A w := Int.ediv_le_self _ h2
  have := hb_len_le ho (k := (A 1 w.toNat).toNat) (by omega)
  have := hw.1
  omega
theorem wq_turnSign {z : Nat → Int} {A : Nat → Nat → Int} {w : Int} {Q : (Nat → Nat → Int) → Prop} (h0 : 0 ≤ w) (h1 : w < 4250) (hok : hb_ok A) (hQ : ∀ B, hb_X (fun x => x = w) A B → hb_ok B → hb_v B w = - hb_v A w → hb_z B w = hb_z A w → Q B) : wp_turnSign z A w Q := by
  have hW := hok w h0 h1
  have fin : ∀ sg : Int, (sg = 0 ∨ sg = 1) → ((if sg = 0 then hb_z A w else - hb_z A w) = - hb_v A w) → wp_turnSign_27 z A sg w Q := by
    intro sg hsg he
    refine ⟨⟨h0, h1⟩, hsg, fun B hB => ?_⟩
    obtain ⟨hWB, hzB, h2B⟩ := hb_s2_W hB hsg hW
    have hX : hb_X (fun x => x = w) A B := by rw [hB]; exact hb_X_s2 h0
    refine hQ B hX (hb_ok_one hok hX hWB) ?_ hzB
    rw [← he]
    unfold hb_v
    rw [h2B, hzB]
  refine ⟨⟨h0, h1⟩, hb_P_m (hb_W_P hW), fun c => fin 0 (Or.inl rfl) ?_, fun c => wq_bigIsZero h0 h1 hW ⟨?_, fun d => fin 0 (Or.inl rfl) ?_, fun d => fin 1 (Or.inr rfl) ?_⟩⟩
  · unfold hb_v
    rw [if_pos rfl, if_neg c]
    omega
  · split <;> exact ⟨by decide, by decide⟩
  · have hz : hb_z A w = 0 := by
      apply Classical.byContradiction
      intro hne
      rw [if_neg hne] at d
      exact d rfl
    unfold hb_v
    rw [hz]
    simp
  · unfold hb_v
    rw [if_pos c, if_neg (by decide)]
theorem wq_divideAll {z : Nat → Int} {A : Nat → Nat → Int} {w v : Int} {Q : (Nat → Nat → Int) → Prop} (h0 : 0 ≤ w) (h1 : w < 4246) (k0 : 0 ≤ v) (k1 : v < 4246) (hok : hb_ok A) (hv : 0 < hb_z A v)
    (hQ : ∀ B, hb_X (fun x => x = w ∨ 4246 ≤ x ∧ x ≤ 4248) A B → hb_ok B → hb_z B w = hb_z A w / hb_z A v → hb_v B w = (if A 2 w.toNat = 0 then hb_z A w / hb_z A v else -(hb_z A w / hb_z A v)) → Q B) : wp_divideAll z A w v Q := by
  have hWw := hok w h0 (by omega)
  have hWv := hok v k0 (by omega)
  have hrw := hb_r_pos w
  have hrv := hb_r_pos v
  have r6 : hb_r 4246 = 270 := by decide
  have r7 : hb_r 4247 = 270 := by decide
  have r8 : hb_r 4248 = 270 := by decide
  have hlw := hWw.1
  have hlv := hWv.1
  refine ⟨⟨h0, by omega⟩, fun sg hsg => wq_bigCopy (by decide) (by decide) h0 (by omega) (by omega) hWw (by omega) (fun A4 hX4 hW4 hz4 hs4 hl4 => ?_)⟩
  have hok4 := hb_ok_one hok hX4 hW4
  have ev4 : hb_z A4 v = hb_z A v := hb_X_z hX4 k0 (by omega) (by omega) hWv
  refine wq_bigCopy (by decide) (by decide) k0 (by omega) (by omega) (hok4 v k0 (by omega)) (by rw [(hX4.2 v k0 (by omega) (by omega)).1]; omega) (fun A6 hX6 hW6 hz6 hs6 hl6 => ?_)
  have hok6 := hb_ok_one hok4 hX6 hW6
  have e76 : hb_z A6 4247 = hb_z A w := by rw [hb_X_z hX6 (by decide) (by decide) (by decide) hW4, hz4]
  have e86 : hb_z A6 4248 = hb_z A v := by rw [hz6, ev4]
  have l76 : A6 1 (4247 : Int).toNat = A 1 w.toNat := by rw [(hX6.2 4247 (by decide) (by decide) (by decide)).1, hl4]
  have ne8 : A6 1 (4248 : Int).toNat ≠ 0 := fun e => by
    have := (hb_z_zero (hok6 4248 (by decide) (by decide))).mp e
    omega
  refine wq_bigDivide (by decide) (by decide) (by decide) (by decide) (by decide) (by decide) (by decide) (by decide) (by decide) (hok6 4247 (by decide) (by decide)) (hok6 4248 (by decide) (by decide)) (by rw [e86]; exact hv) (by have := (hok6 4248 (by decide) (by decide)).1; rw [l76, r6]; omega) (fun A8 hX8 hW87 hW86 hz86 hz87 hs87 hs86 => ?_)
  have hok8 : hb_ok A8 := hb_X_ok hX8 hok6 (fun u _ _ e => by rcases e with e | e <;> rw [e] <;> assumption)
  rw [e76, e86] at hz86
  have l86 : A8 1 (4246 : Int).toNat ≤ A 1 w.toNat := hb_len_div hWw hW86 hv hz86
  refine wq_bigCopy h0 (by omega) (by decide) (by decide) (by omega) hW86 (by omega) (fun A10 hX10 hW10 hz10 hs10 hl10 => ?_)
  have hok10 := hb_ok_one hok8 hX10 hW10
  have hXall : hb_X (fun x => x = w ∨ 4246 ≤ x ∧ x ≤ 4248) A A10 :=
    hb_X_trans (hb_X_trans (hb_X_trans (hb_X_mono (fun u e => Or.inr (by omega)) hX4) (hb_X_mono (fun u e => Or.inr (by omega)) hX6)) (hb_X_mono (fun u e => Or.inr (by omega)) hX8)) (hb_X_mono (fun u e => Or.inl e) hX10)
  have ezw : hb_z A10 w = hb_z A w / hb_z A v := by rw [hz10, hz86]
  have fin : ∀ s2 : Int, (s2 = 0 ∨ s2 = 1) → ((if s2 = 0 then hb_z A w / hb_z A v else -(hb_z A w / hb_z A v)) = (if A 2 w.toNat = 0 then hb_z A w / hb_z A v else -(hb_z A w / hb_z A v))) → wp_divideAll_66 z A10 s2 w Q := by
    intro s2 hs2 he
    refine ⟨⟨h0, by omega⟩, hs2, fun B hB => ?_⟩
    obtain ⟨hWB, hzB, h2B⟩ := hb_s2_W hB hs2 hW10
    have hX : hb_X (fun x => x = w) A10 B := by rw [hB]; exact hb_X_s2 h0
    refine hQ B (hb_X_trans hXall (hb_X_mono (fun u e => Or.inl e) hX)) (hb_ok_one hok10 hX hWB) (by rw [hzB, ezw]) ?_
    rw [← he]
    unfold hb_v
    rw [h2B, hzB, ezw]
  have hrs : hz_rI sg := by rw [hsg]; exact hb_P_m (hb_W_P hWw)
  refine ⟨hrs, fun c => fin 0 (Or.inl rfl) ?_, fun c => wq_bigIsZero h0 (by omega) hW10 ⟨?_, fun d => fin 0 (Or.inl rfl) ?_, fun d => fin 1 (Or.inr rfl) ?_⟩⟩
  · rw [hsg] at c
    rw [if_pos rfl, if_pos c]
  · split <;> exact ⟨by decide, by decide⟩
  · have hz : hb_z A w / hb_z A v = 0 := by
      rw [← ezw]
      apply Classical.byContradiction
      intro hne
      rw [if_neg hne] at d
      exact d rfl
    rw [hz]
    split <;> split <;> rfl
  · rw [hsg] at c
    rw [if_neg (by decide), if_neg c]
theorem hb_exact {A : Nat → Nat → Int} {w d r : Int} (hd : 0 < d) (h : hb_v A w = d * r) : (if A 2 w.toNat = 0 then hb_z A w / d else -(hb_z A w / d)) = r := by
  unfold hb_v at h
  split
  · next c =>
    rw [if_pos c] at h
    rw [h]
    exact Int.mul_ediv_cancel_left _ (by omega)
  · next c =>
    rw [if_neg c] at h
    have e : hb_z A w = d * (-r) := by rw [Int.mul_neg]; omega
    rw [e, Int.mul_ediv_cancel_left _ (by omega)]
    omega
theorem hb_z_abs {A : Nat → Nat → Int} {w : Int} (hW : hb_W A w) : hb_z A w = (hb_v A w).natAbs := by
  have := hb_z_nonneg (hb_W_P hW)
  unfold hb_v
  split <;> omega
theorem wq_exchangeCell {z : Nat → Int} {A : Nat → Nat → Int} {c u v r : Int} {Q : (Nat → Nat → Int) → Prop} (c0 : 0 ≤ c) (c1 : c < 4225) (u0 : 0 ≤ u) (u1 : u < 4225) (v0 : 0 ≤ v) (v1 : v < 4225) (hok : hb_ok A) (hd : 0 < hb_v A 4225) (hr : hb_v A 4226 * hb_v A c - hb_v A u * hb_v A v = hb_v A 4225 * r) (hsz : (r.natAbs : Int) < 16777216 ^ 130)
    (hQ : ∀ B, hb_X (fun x => x = c ∨ 4243 ≤ x) A B → hb_ok B → hb_v B c = r → Q B) : wp_exchangeCell z A c u v Q := by
  have r3 : hb_r 4243 = 270 := by decide
  have r5 : hb_r 4245 = 270 := by decide
  have rc : hb_r c = 130 := by unfold hb_r; rw [if_neg (by omega)]
  have ru : hb_r u = 130 := by unfold hb_r; rw [if_neg (by omega)]
  have rv : hb_r v = 130 := by unfold hb_r; rw [if_neg (by omega)]
  have rp : hb_r 4226 = 130 := by decide
  have lc := (hok c c0 (by omega)).1
  have lu := (hok u u0 (by omega)).1
  have lv := (hok v v0 (by omega)).1
  have lp := (hok 4226 (by decide) (by decide)).1
  refine wq_bigProduct (by decide) (by decide) (by decide) (by decide) c0 (by omega) (by decide) (by omega) (hok 4226 (by decide) (by decide)) (hok c c0 (by omega)) (by omega) (fun A4 hX4 hW4 hv4 hz4 => ?_)
  have hok4 := hb_ok_one hok hX4 hW4
  have same4 : ∀ x, 0 ≤ x → x < 4243 → hb_v A4 x = hb_v A x := fun x a b => hb_X_v hX4 a (by omega) (by omega) (hok x a (by omega))
  have lu4 := (hX4.2 u u0 (by omega) (by omega)).1
  have lv4 := (hX4.2 v v0 (by omega) (by omega)).1
  refine wq_bigProduct (by decide) (by decide) u0 (by omega) v0 (by omega) (by omega) (by omega) (hok4 u u0 (by omega)) (hok4 v v0 (by omega)) (by omega) (fun A6 hX6 hW6 hv6 hz6 => ?_)
  have hok6 := hb_ok_one hok4 hX6 hW6
  have len3 : A6 1 (4243 : Int).toNat ≤ 260 := by
    rw [(hX6.2 4243 (by decide) (by decide) (by decide)).1]
    have h1 := hb_z_lt (hb_W_P (hok 4226 (by decide) (by decide)))
    have h2 := hb_z_lt (hb_W_P (hok c c0 (by omega)))
    have n1 := hb_z_nonneg (hb_W_P (hok 4226 (by decide) (by decide)))
    have n2 := hb_z_nonneg (hb_W_P (hok c c0 (by omega)))
    have p1 : (16777216 : Int) ^ (A 1 (4226 : Int).toNat).toNat ≤ 16777216 ^ 130 := hb_pow_le (by omega)
    have p2 : (16777216 : Int) ^ (A 1 c.toNat).toNat ≤ 16777216 ^ 130 := hb_pow_le (by omega)
    have h3 : hb_z A 4226 * hb_z A c < 16777216 ^ 130 * 16777216 ^ 130 := Int.mul_lt_mul' (by omega) (by omega) n2 (hb_pow_pos 130)
    rw [← Int.pow_add, ← hz4] at h3
    exact hb_len_le hW4 h3
  have len5 : A6 1 (4245 : Int).toNat ≤ 260 := by
    have h1 := hb_z_lt (hb_W_P (hok4 u u0 (by omega)))
    have h2 := hb_z_lt (hb_W_P (hok4 v v0 (by omega)))
    have n1 := hb_z_nonneg (hb_W_P (hok4 u u0 (by omega)))
    have n2 := hb_z_nonneg (hb_W_P (hok4 v v0 (by omega)))
    have p1 : (16777216 : Int) ^ (A4 1 u.toNat).toNat ≤ 16777216 ^ 130 := hb_pow_le (by omega)
    have p2 : (16777216 : Int) ^ (A4 1 v.toNat).toNat ≤ 16777216 ^ 130 := hb_pow_le (by omega)
    have h3 : hb_z A4 u * hb_z A4 v < 16777216 ^ 130 * 16777216 ^ 130 := Int.mul_lt_mul' (by omega) (by omega) n2 (hb_pow_pos 130)
    rw [← Int.pow_add, ← hz6] at h3
    exact hb_len_le hW6 h3
  refine wq_bigAdd (by decide) (by decide) (by decide) (by decide) (by decide) (hok6 4243 (by decide) (by decide)) hW6 (by omega) (by omega) (Or.inr rfl) (fun A8 hX8 hW8 hv8 => ?_)
  have hok8 := hb_ok_one hok6 hX8 hW8
  rw [if_neg (by decide)] at hv8
  have ev8 : hb_v A8 4243 = hb_v A 4225 * r := by
    rw [hv8, hv6, hb_X_v hX6 (by decide) (by decide) (by decide) hW4, hv4, same4 u u0 (by omega), same4 v v0 (by omega), ← hr]
  have ed8 : hb_v A8 4225 = hb_v A 4225 := by
    rw [hb_X_v hX8 (by decide) (by decide) (by decide) (hok6 4225 (by decide) (by decide)), hb_X_v hX6 (by decide) (by decide) (by decide) (hok4 4225 (by decide) (by decide)), same4 4225 (by decide) (by decide)]
  have ez8 : hb_z A8 4225 = hb_v A 4225 := by
    have := hb_z_abs (hok8 4225 (by decide) (by decide))
    rw [ed8] at this
    omega
  have hX08 : hb_X (fun x => x = c ∨ 4243 ≤ x) A A8 := hb_X_trans (hb_X_trans (hb_X_mono (fun u e => Or.inr (by omega)) hX4) (hb_X_mono (fun u e => Or.inr (by omega)) hX6)) (hb_X_mono (fun u e => Or.inr (by omega)) hX8)
  have fin : ∀ A9, hb_X (fun x => x = c ∨ 4243 ≤ x) A A9 → hb_ok A9 → hb_v A9 4243 = r → wp_exchangeCell_51 z A9 c Q := by
    intro A9 hX9 hok9 hv9
    have hz9 := hb_z_abs (hok9 4243 (by decide) (by decide))
    rw [hv9] at hz9
    refine wq_bigCopy c0 (by omega) (by decide) (by decide) (by omega) (hok9 4243 (by decide) (by decide)) (by rw [rc]; exact hb_len_le (hok9 4243 (by decide) (by decide)) (k := 130) (by omega)) (fun B hX hW hz hs hl => ?_)
    exact hQ B (hb_X_trans hX9 (hb_X_mono (fun u e => Or.inl e) hX)) (hb_ok_one hok9 hX hW) (by rw [hb_copy_v hz hs, hv9])
  refine wq_bigIsOne (by decide) (by decide) (hok8 4225 (by decide) (by decide)) ⟨by split <;> exact ⟨by decide, by decide⟩, fun d => ?_, fun d => ?_⟩
  · have e1 : hb_v A 4225 = 1 := by
      rw [← ez8]
      apply Classical.byContradiction
      intro hne
      rw [if_neg hne] at d
      exact d rfl
    refine fin A8 hX08 hok8 ?_
    rw [ev8, e1]
    omega
  · refine wq_divideAll (by decide) (by decide) (by decide) (by decide) hok8 (by rw [ez8]; exact hd) (fun A12 hX12 hok12 hz12 hv12 => ?_)
    refine fin A12 (hb_X_trans hX08 (hb_X_mono (fun u e => Or.inr (by omega)) hX12)) hok12 ?_
    rw [hv12, ez8]
    exact hb_exact hd ev8
