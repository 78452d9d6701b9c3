/-- one word of the grammar: what is due (d), the brackets that are open (1: a draw's), whether it is in an end -/
noncomputable def cq_s (d : Int) (st : List Int) (e k d' : Int) (st' : List Int) (e' : Int) : Prop :=
  (d = 1 ∧ k = 91 ∧ d' = 5 ∧ st' = st ∧ e' = 1) ∨
  (d = 1 ∧ k = 63 ∧ d' = 4 ∧ st' = st ∧ e' = 0) ∨
  (d = 1 ∧ (k = 65 ∨ k = 66) ∧ d' = 2 ∧ st' = st ∧ e' = 0) ∨
  (d = 2 ∧ k = 48 ∧ d' = 3 ∧ st' = st ∧ e' = e) ∨
  (d = 3 ∧ k = 40 ∧ d' = 1 ∧ st' = 0 :: st ∧ e' = e) ∨
  (d = 4 ∧ k = 40 ∧ d' = 5 ∧ st' = 1 :: st ∧ e' = e) ∨
  (d = 5 ∧ k = 45 ∧ d' = 6 ∧ st' = st ∧ e' = e) ∨
  ((d = 5 ∨ d = 6) ∧ k = 48 ∧ d' = 7 ∧ st' = st ∧ e' = e) ∨
  (d = 7 ∧ k = 47 ∧ d' = 8 ∧ st' = st ∧ e' = e) ∨
  (d = 8 ∧ k = 48 ∧ d' = 9 ∧ st' = st ∧ e' = e) ∨
  ((d = 7 ∨ d = 9) ∧ k = 93 ∧ ¬ e = 0 ∧ d' = 10 ∧ st' = st ∧ e' = 0) ∨
  ((d = 7 ∨ d = 9) ∧ k = 58 ∧ e = 0 ∧ d' = 1 ∧ st' = st ∧ e' = 0) ∨
  (d = 10 ∧ k = 41 ∧ (∃ x, st = x :: st') ∧ d' = 10 ∧ e' = e) ∨
  (d = 10 ∧ k = 44 ∧ st' = st ∧ e' = e ∧ (((∃ t, st = 0 :: t) ∧ d' = 1) ∨ ((∃ t, st = 1 :: t) ∧ d' = 5)))
theorem cq_c0 {d e k d' e' : Int} {st st' : List Int} (h : d = 1 ∧ k = 91 ∧ d' = 5 ∧ st' = st ∧ e' = 1) : cq_s d st e k d' st' e' := Or.inl h
theorem cq_c1 {d e k d' e' : Int} {st st' : List Int} (h : d = 1 ∧ k = 63 ∧ d' = 4 ∧ st' = st ∧ e' = 0) : cq_s d st e k d' st' e' := Or.inr (Or.inl h)
theorem cq_c2 {d e k d' e' : Int} {st st' : List Int} (h : d = 1 ∧ (k = 65 ∨ k = 66) ∧ d' = 2 ∧ st' = st ∧ e' = 0) : cq_s d st e k d' st' e' := Or.inr (Or.inr (Or.inl h))
theorem cq_c3 {d e k d' e' : Int} {st st' : List Int} (h : d = 2 ∧ k = 48 ∧ d' = 3 ∧ st' = st ∧ e' = e) : cq_s d st e k d' st' e' := Or.inr (Or.inr (Or.inr (Or.inl h)))
theorem cq_c4 {d e k d' e' : Int} {st st' : List Int} (h : d = 3 ∧ k = 40 ∧ d' = 1 ∧ st' = 0 :: st ∧ e' = e) : cq_s d st e k d' st' e' := Or.inr (Or.inr (Or.inr (Or.inr (Or.inl h))))
theorem cq_c5 {d e k d' e' : Int} {st st' : List Int} (h : d = 4 ∧ k = 40 ∧ d' = 5 ∧ st' = 1 :: st ∧ e' = e) : cq_s d st e k d' st' e' := Or.inr (Or.inr (Or.inr (Or.inr (Or.inr (Or.inl h)))))
theorem cq_c6 {d e k d' e' : Int} {st st' : List Int} (h : d = 5 ∧ k = 45 ∧ d' = 6 ∧ st' = st ∧ e' = e) : cq_s d st e k d' st' e' := Or.inr (Or.inr (Or.inr (Or.inr (Or.inr (Or.inr (Or.inl h))))))
theorem cq_c7 {d e k d' e' : Int} {st st' : List Int} (h : (d = 5 ∨ d = 6) ∧ k = 48 ∧ d' = 7 ∧ st' = st ∧ e' = e) : cq_s d st e k d' st' e' := Or.inr (Or.inr (Or.inr (Or.inr (Or.inr (Or.inr (Or.inr (Or.inl h)))))))
theorem cq_c8 {d e k d' e' : Int} {st st' : List Int} (h : d = 7 ∧ k = 47 ∧ d' = 8 ∧ st' = st ∧ e' = e) : cq_s d st e k d' st' e' := Or.inr (Or.inr (Or.inr (Or.inr (Or.inr (Or.inr (Or.inr (Or.inr (Or.inl h))))))))
theorem cq_c9 {d e k d' e' : Int} {st st' : List Int} (h : d = 8 ∧ k = 48 ∧ d' = 9 ∧ st' = st ∧ e' = e) : cq_s d st e k d' st' e' := Or.inr (Or.inr (Or.inr (Or.inr (Or.inr (Or.inr (Or.inr (Or.inr (Or.inr (Or.inl h)))))))))
theorem cq_c10 {d e k d' e' : Int} {st st' : List Int} (h : (d = 7 ∨ d = 9) ∧ k = 93 ∧ ¬ e = 0 ∧ d' = 10 ∧ st' = st ∧ e' = 0) : cq_s d st e k d' st' e' := Or.inr (Or.inr (Or.inr (Or.inr (Or.inr (Or.inr (Or.inr (Or.inr (Or.inr (Or.inr (Or.inl h))))))))))
theorem cq_c11 {d e k d' e' : Int} {st st' : List Int} (h : (d = 7 ∨ d = 9) ∧ k = 58 ∧ e = 0 ∧ d' = 1 ∧ st' = st ∧ e' = 0) : cq_s d st e k d' st' e' := Or.inr (Or.inr (Or.inr (Or.inr (Or.inr (Or.inr (Or.inr (Or.inr (Or.inr (Or.inr (Or.inr (Or.inl h)))))))))))
theorem cq_c12 {d e k d' e' : Int} {st st' : List Int} (h : d = 10 ∧ k = 41 ∧ (∃ x, st = x :: st') ∧ d' = 10 ∧ e' = e) : cq_s d st e k d' st' e' := Or.inr (Or.inr (Or.inr (Or.inr (Or.inr (Or.inr (Or.inr (Or.inr (Or.inr (Or.inr (Or.inr (Or.inr (Or.inl h))))))))))))
theorem cq_c13 {d e k d' e' : Int} {st st' : List Int} (h : d = 10 ∧ k = 44 ∧ st' = st ∧ e' = e ∧ (((∃ t, st = 0 :: t) ∧ d' = 1) ∨ ((∃ t, st = 1 :: t) ∧ d' = 5))) : cq_s d st e k d' st' e' := Or.inr (Or.inr (Or.inr (Or.inr (Or.inr (Or.inr (Or.inr (Or.inr (Or.inr (Or.inr (Or.inr (Or.inr (Or.inr (h)))))))))))))
theorem cq_1 {e k d' e' : Int} {st st' : List Int} (h : cq_s 1 st e k d' st' e') : st' = st ∧ ((k = 91 ∧ d' = 5 ∧ e' = 1) ∨ (k = 63 ∧ d' = 4 ∧ e' = 0) ∨ ((k = 65 ∨ k = 66) ∧ d' = 2 ∧ e' = 0)) := by
  rcases h with h | h | h | h | h | h | h | h | h | h | h | h | h | h
  · exact ⟨h.2.2.2.1, by omega⟩
  · exact ⟨h.2.2.2.1, by omega⟩
  · exact ⟨h.2.2.2.1, by omega⟩
  · omega
  · omega
  · omega
  · omega
  · omega
  · omega
  · omega
  · omega
  · omega
  · omega
  · omega
theorem cq_2 {e k d' e' : Int} {st st' : List Int} (h : cq_s 2 st e k d' st' e') : st' = st ∧ e' = e ∧ k = 48 ∧ d' = 3 := by
  rcases h with h | h | h | h | h | h | h | h | h | h | h | h | h | h
  · omega
  · omega
  · omega
  · exact ⟨h.2.2.2.1, by omega⟩
  · omega
  · omega
  · omega
  · omega
  · omega
  · omega
  · omega
  · omega
  · omega
  · omega
theorem cq_3 {e k d' e' : Int} {st st' : List Int} (h : cq_s 3 st e k d' st' e') : st' = 0 :: st ∧ e' = e ∧ k = 40 ∧ d' = 1 := by
  rcases h with h | h | h | h | h | h | h | h | h | h | h | h | h | h
  · omega
  · omega
  · omega
  · omega
  · exact ⟨h.2.2.2.1, by omega⟩
  · omega
  · omega
  · omega
  · omega
  · omega
  · omega
  · omega
  · omega
  · omega
theorem cq_4 {e k d' e' : Int} {st st' : List Int} (h : cq_s 4 st e k d' st' e') : st' = 1 :: st ∧ e' = e ∧ k = 40 ∧ d' = 5 := by
  rcases h with h | h | h | h | h | h | h | h | h | h | h | h | h | h
  · omega
  · omega
  · omega
  · omega
  · omega
  · exact ⟨h.2.2.2.1, by omega⟩
  · omega
  · omega
  · omega
  · omega
  · omega
  · omega
  · omega
  · omega
theorem cq_5 {e k d' e' : Int} {st st' : List Int} (h : cq_s 5 st e k d' st' e') : st' = st ∧ e' = e ∧ ((k = 45 ∧ d' = 6) ∨ (k = 48 ∧ d' = 7)) := by
  rcases h with h | h | h | h | h | h | h | h | h | h | h | h | h | h
  · omega
  · omega
  · omega
  · omega
  · omega
  · omega
  · exact ⟨h.2.2.2.1, by omega⟩
  · exact ⟨h.2.2.2.1, by omega⟩
  · omega
  · omega
  · omega
  · omega
  · omega
  · omega
theorem cq_6 {e k d' e' : Int} {st st' : List Int} (h : cq_s 6 st e k d' st' e') : st' = st ∧ e' = e ∧ k = 48 ∧ d' = 7 := by
  rcases h with h | h | h | h | h | h | h | h | h | h | h | h | h | h
  · omega
  · omega
  · omega
  · omega
  · omega
  · omega
  · omega
  · exact ⟨h.2.2.2.1, by omega⟩
  · omega
  · omega
  · omega
  · omega
  · omega
  · omega
theorem cq_8 {e k d' e' : Int} {st st' : List Int} (h : cq_s 8 st e k d' st' e') : st' = st ∧ e' = e ∧ k = 48 ∧ d' = 9 := by
  rcases h with h | h | h | h | h | h | h | h | h | h | h | h | h | h
  · omega
  · omega
  · omega
  · omega
  · omega
  · omega
  · omega
  · omega
  · omega
  · exact ⟨h.2.2.2.1, by omega⟩
  · omega
  · omega
  · omega
  · omega
theorem cq_7 {e k d' e' : Int} {st st' : List Int} (h : cq_s 7 st e k d' st' e') : (k = 47 ∧ st' = st ∧ e' = e ∧ d' = 8) ∨ (¬ k = 47 ∧ cq_s 9 st e k d' st' e') := by
  rcases h with h | h | h | h | h | h | h | h | h | h | h | h | h | h
  · omega
  · omega
  · omega
  · omega
  · omega
  · omega
  · omega
  · omega
  · exact Or.inl ⟨h.2.1, h.2.2.2.1, h.2.2.2.2, h.2.2.1⟩
  · omega
  · exact Or.inr ⟨by omega, cq_c10 ⟨Or.inr rfl, h.2⟩⟩
  · exact Or.inr ⟨by omega, cq_c11 ⟨Or.inr rfl, h.2⟩⟩
  · omega
  · omega
theorem cq_9 {e k d' e' : Int} {st st' : List Int} (h : cq_s 9 st e k d' st' e') : st' = st ∧ e' = 0 ∧ ((k = 93 ∧ ¬ e = 0 ∧ d' = 10) ∨ (k = 58 ∧ e = 0 ∧ d' = 1)) := by
  rcases h with h | h | h | h | h | h | h | h | h | h | h | h | h | h
  · omega
  · omega
  · omega
  · omega
  · omega
  · omega
  · omega
  · omega
  · omega
  · omega
  · exact ⟨h.2.2.2.2.1, by omega⟩
  · exact ⟨h.2.2.2.2.1, by omega⟩
  · omega
  · omega
theorem cq_10 {e k d' e' : Int} {st st' : List Int} (h : cq_s 10 st e k d' st' e') : e' = e ∧ ((k = 41 ∧ (∃ x, st = x :: st') ∧ d' = 10) ∨ (k = 44 ∧ st' = st ∧ (((∃ t, st = 0 :: t) ∧ d' = 1) ∨ ((∃ t, st = 1 :: t) ∧ d' = 5)))) := by
  rcases h with h | h | h | h | h | h | h | h | h | h | h | h | h | h
  · omega
  · omega
  · omega
  · omega
  · omega
  · omega
  · omega
  · omega
  · omega
  · omega
  · omega
  · omega
  · exact ⟨h.2.2.2.2, Or.inl ⟨h.2.1, h.2.2.1, h.2.2.2.1⟩⟩
  · exact ⟨h.2.2.2.1, Or.inr ⟨h.2.1, h.2.2.1, h.2.2.2.2⟩⟩
/-- the rest of the text, from place p on, is taken -/
noncomputable def cq_a (c : Nat → Int) (n : Nat) : Nat → Int → List Int → Int → Nat → Prop
  | 0, _, _, _, _ => False
  | m + 1, d, st, e, p => ∃ (k : Int) (b q : Nat), cl_R c n p k b q ∧ ((k = 0 ∧ d = 10 ∧ st = []) ∨ (¬ k = 0 ∧ ∃ (d' : Int) (st' : List Int) (e' : Int), cq_s d st e k d' st' e' ∧ cq_a c n m d' st' e' q))
noncomputable def cq_A (c : Nat → Int) (n : Nat) (d : Int) (st : List Int) (e : Int) (p : Nat) : Prop := ∃ m, cq_a c n m d st e p
theorem cq_inv {c : Nat → Int} {n p b q : Nat} {d e k : Int} {st : List Int} (h : cq_A c n d st e p) (hR : cl_R c n p k b q) : (k = 0 ∧ d = 10 ∧ st = []) ∨ (¬ k = 0 ∧ ∃ (d' : Int) (st' : List Int) (e' : Int), cq_s d st e k d' st' e' ∧ cq_A c n d' st' e' q) := by
  obtain ⟨m, h⟩ := h
  cases m with
  | zero => exact False.elim h
  | succ m =>
    obtain ⟨k', b', q', h1, h2⟩ := h
    obtain ⟨e1, e2, e3⟩ := cl_R_uniq hR h1
    subst e1 e2 e3
    rcases h2 with h2 | ⟨h2, d', st', e', h3, h4⟩
    · exact Or.inl h2
    · exact Or.inr ⟨h2, d', st', e', h3, m, h4⟩
theorem cq_A_over {c : Nat → Int} {n p b q : Nat} {e : Int} (hR : cl_R c n p 0 b q) : cq_A c n 10 [] e p := ⟨1, 0, b, q, hR, Or.inl ⟨rfl, rfl, rfl⟩⟩
theorem cq_A_step {c : Nat → Int} {n p b q : Nat} {d e k d' e' : Int} {st st' : List Int} (hR : cl_R c n p k b q) (hk : ¬ k = 0) (hs : cq_s d st e k d' st' e') (h : cq_A c n d' st' e' q) : cq_A c n d st e p := by
  obtain ⟨m, h⟩ := h
  exact ⟨m + 1, k, b, q, hR, Or.inr ⟨hk, d', st', e', hs, h⟩⟩
/-- the open brackets, as they lie in the array -/
noncomputable def cq_t (f : Nat → Int) : List Int → Prop
  | [] => True
  | x :: t => f t.length = x ∧ (x = 0 ∨ x = 1) ∧ cq_t f t
theorem cq_t_keep {f g : Nat → Int} {t : List Int} (h : ∀ i, i < t.length → g i = f i) (ht : cq_t f t) : cq_t g t := by
  induction t with
  | nil => exact True.intro
  | cons x t ih =>
    obtain ⟨h1, h2, h3⟩ := ht
    refine ⟨?_, h2, ih (fun i hi => h i (by simp only [List.length_cons]; omega)) h3⟩
    rw [h _ (by simp only [List.length_cons]; omega)]
    exact h1
section CQ
variable {L : List Nat} {K : Nat → cw_K} {r : Nat → Nat → Nat} {z A : Nat → Nat → Int} {w : Nat → Nat × Nat} {ρ : Nat → Nat} {S : Nat → Prop} {R : Nat}
theorem cq_half {x y t : Int} (hy : 0 < y) (hyx : y ≤ x) (et : t = x % y) : 2 * t ≤ x := by
  have h1 := Int.mul_ediv_add_emod x y
  have h2 := Int.emod_lt_of_pos x hy
  have h3 : 1 ≤ x / y := Int.le_ediv_of_mul_le hy (by omega)
  have h4 : y * 1 ≤ y * (x / y) := Int.mul_le_mul_of_nonneg_left h3 (by omega)
  omega
/-- the greatest common divisor divides both: 200 steps are more than enough -/
theorem wq_c11_gcdD {a b : Int} (ha : -9223372036854775808 < a ∧ a < 9223372036854775808) (hb : -9223372036854775808 < b ∧ b < 9223372036854775808) {Q : Int → Prop} (hQ : ∀ x : Int, 0 ≤ x → x < 9223372036854775808 → x ∣ a → x ∣ b → Q x) : wp_c11_gcd L K z r A a b Q := by
  refine ⟨by omega, by omega, fun x ex => ⟨by omega, by omega, fun y ey => ?_⟩⟩
  intro P hP
  have fin : ∀ x y : Int, y = 0 → (∀ d : Int, d ∣ x → d ∣ y → d ∣ a ∧ d ∣ b) → 0 ≤ x → x < 9223372036854775808 → Q x := by
    intro x y ey hd h0 h1
    have := hd x (Int.dvd_refl x) (by rw [ey]; exact Int.dvd_zero x)
    exact hQ x h0 h1 this.1 this.2
  have nextd : ∀ x y t : Int, t = x % y → (∀ d : Int, d ∣ x → d ∣ y → d ∣ a ∧ d ∣ b) → ∀ d : Int, d ∣ y → d ∣ t → d ∣ a ∧ d ∣ b := by
    intro x y t et hd d d1 d2
    refine hd d ?_ d1
    rw [← Int.mul_ediv_add_emod x y, ← et]
    exact Int.dvd_add (Int.dvd_trans d1 (Int.dvd_mul_right y _)) d2
  have key : ∀ (k n : Nat) (x y i : Int), n + k = 199 → i = (n : Int) → (0 ≤ x ∧ x < 9223372036854775808) → (0 ≤ y ∧ y < x) → x * y < 2 ^ k → (∀ d : Int, d ∣ x → d ∣ y → d ∣ a ∧ d ∣ b) → P x y i := by
    intro k
    induction k with
    | zero =>
      intro n x y i hk ei hx hy hxy hd
      have y0 : y = 0 := by
        apply Classical.byContradiction
        intro c
        have : 1 * 1 ≤ x * y := Int.mul_le_mul (by omega) (by omega) (by omega) (by omega)
        have : (2 : Int) ^ 0 = 1 := rfl
        omega
      exact hP x y i ⟨by omega, fun c => by omega, fun _ => ⟨by omega, fun _ => fin x y y0 hd hx.1 hx.2, fun c => absurd y0 c⟩⟩
    | succ k ih =>
      intro n x y i hk ei hx hy hxy hd
      refine hP x y i ⟨by omega, fun c => by omega, fun _ => ⟨by omega, fun y0 => fin x y y0 hd hx.1 hx.2, fun c => ⟨c, by omega, by omega, fun t et j ej => ?_⟩⟩⟩
      rw [Int.tmod_eq_emod_of_nonneg hx.1] at et
      have h1 := Int.emod_nonneg x (show y ≠ 0 by omega)
      have h2 := Int.emod_lt_of_pos x (show 0 < y by omega)
      have h3 := cq_half (by omega) (by omega) et
      have h4 : y * (2 * t) ≤ y * x := Int.mul_le_mul_of_nonneg_left h3 (by omega)
      have h5 : y * (2 * t) = 2 * (y * t) := by grind
      have h6 : y * x = x * y := Int.mul_comm y x
      have h7 : (2 : Int) ^ (k + 1) = 2 * 2 ^ k := by rw [Int.pow_succ, Int.mul_comm]
      refine ih (n + 1) y t j (by omega) (by omega) (by omega) (by omega) ?_ (nextd x y t et hd)
      rw [h7] at hxy
      omega
  have start : ∀ d : Int, d ∣ x → d ∣ y → d ∣ a ∧ d ∣ b := by
    intro d d1 d2
    refine ⟨?_, ?_⟩
    · have : x = a ∨ x = -a := by omega
      rcases this with e | e
      · rw [e] at d1; exact d1
      · rw [e] at d1; exact Int.dvd_neg.mp d1
    · have : y = b ∨ y = -b := by omega
      rcases this with e | e
      · rw [e] at d2; exact d2
      · rw [e] at d2; exact Int.dvd_neg.mp d2
  refine hP x y 0 ⟨by decide, fun c => by omega, fun _ => ⟨by omega, fun y0 => fin x y y0 start (by omega) (by omega), fun c => ⟨c, by omega, by omega, fun t et j ej => ?_⟩⟩⟩
  rw [Int.tmod_eq_emod_of_nonneg (by omega)] at et
  have h1 := Int.emod_nonneg x (show y ≠ 0 by omega)
  have h2 := Int.emod_lt_of_pos x (show 0 < y by omega)
  have h3 : y * t ≤ 9223372036854775808 * 9223372036854775808 := Int.mul_le_mul (by omega) (by omega) (by omega) (by omega)
  have h4 : (9223372036854775808 * 9223372036854775808 : Int) < 2 ^ 198 := by decide +kernel
  exact key 198 1 y t j (by omega) (by omega) (by omega) (by omega) (by omega) (nextd x y t et start)
/-- changes that touch no number -/
theorem cJ_z {z' : Nat → Nat → Int} (h : cJ L K r z A) (hz : ∀ b, cw_O L K 0 b → z' b = z b) : cJ L K r z' A := by
  refine ⟨⟨h.1.1, fun b hb => ?_⟩, h.2⟩
  have := h.1.2 b hb
  unfold cb_k at this ⊢
  rw [hz b hb]
  exact this
theorem cl_T_keep {W : Nat} {z' A' : Nat → Nat → Int} (h : cl_T L K r z A W) (hz : z' W = z W) (hA : A' (r W 0) = A (r W 0)) : cl_T L K r z' A' W := by
  unfold cl_T at h ⊢
  rw [hz, hA]
  exact h
end CQ
