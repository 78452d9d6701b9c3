/-- the sum above M of what stands above -/
noncomputable def sm_S (M : Int) : List (Int × Int) → Int
  | [] => 0
  | q :: l => sm_S M l + q.1 * M.tdiv q.2
theorem sp_l_dvd {a b : Int} (ha : 1 ≤ a) (hb : 1 ≤ b) : a ∣ sp_l a b ∧ b ∣ sp_l a b ∧ 1 ≤ sp_l a b := by
  have gl := sp_g_l a b
  have gr := sp_g_r a b
  have gn := sp_g_nn a b
  unfold sp_l
  generalize sp_g a b = g at *
  obtain ⟨u, hu⟩ := gl
  obtain ⟨v, hv⟩ := gr
  have g1 : 1 ≤ g := by
    apply Classical.byContradiction
    intro hc
    have : g = 0 := by omega
    rw [this, Int.zero_mul] at hu
    omega
  have eu : sp_q a g = u := by
    unfold sp_q
    rw [if_neg (by omega), hu, Int.mul_tdiv_cancel_left _ (by omega)]
  have u1 : 1 ≤ u := by
    apply Classical.byContradiction
    intro hc
    have : 0 ≤ g * (-u) := Int.mul_nonneg (by omega) (by omega)
    rw [Int.mul_neg] at this
    omega
  rw [eu]
  refine ⟨⟨v, ?_⟩, ⟨u, Int.mul_comm u b⟩, ?_⟩
  · rw [hu]
    rw [show u * b = u * (g * v) by rw [← hv]]
    grind
  · have : 1 * 1 ≤ u * b := Int.mul_le_mul u1 hb (by decide) (by omega)
    omega
theorem sm_S_sc {m m' : Int} {l : List (Int × Int)} (hm : 1 ≤ m) (hmm : m ∣ m') (h : ∀ q, q ∈ l → 1 ≤ q.2 ∧ q.2 ∣ m) : sm_S m l * m'.tdiv m = sm_S m' l := by
  induction l with
  | nil => exact Int.zero_mul _
  | cons q l ih =>
    have i := ih (fun q' hq => h q' (List.mem_cons_of_mem _ hq))
    obtain ⟨q1, c, hc⟩ := h q (by simp)
    obtain ⟨e, he⟩ := hmm
    have e1 : m.tdiv q.2 = c := by rw [hc, Int.mul_tdiv_cancel_left _ (by omega)]
    have e2 : m'.tdiv m = e := by rw [he, Int.mul_tdiv_cancel_left _ (by omega)]
    have e3 : m'.tdiv q.2 = c * e := by rw [he, hc, Int.mul_assoc, Int.mul_tdiv_cancel_left _ (by omega)]
    simp only [sm_S]
    rw [Int.add_mul, i, e1, e2, e3, Int.mul_assoc]
theorem sp_ml_ok {l : List (Int × Int)} (h : ∀ q, q ∈ l → 1 ≤ q.2) : 1 ≤ (sp_ml l).1 ∧ ((sp_ml l).1 < 1000000000 → (∀ q, q ∈ l → q.2 ∣ (sp_ml l).1) ∧ (sp_ml l).2 = sm_S (sp_ml l).1 l) := by
  induction l with
  | nil => exact ⟨by decide, fun _ => ⟨fun q hq => absurd hq (by simp), rfl⟩⟩
  | cons q l ih =>
    obtain ⟨i1, i2⟩ := ih (fun q' hq => h q' (List.mem_cons_of_mem _ hq))
    have q1 := h q (by simp)
    by_cases c : (sp_ml l).1 < 1000000000
    · obtain ⟨j1, j2⟩ := i2 c
      obtain ⟨d1, d2, d3⟩ := sp_l_dvd i1 q1
      rw [sp_ml_go c]
      refine ⟨d3, fun _ => ⟨fun q' hq => ?_, ?_⟩⟩
      · rcases List.mem_cons.mp hq with e | e
        · rw [e]; exact d2
        · exact Int.dvd_trans (j1 q' e) d1
      · show (sp_ml l).2 * sp_q (sp_l (sp_ml l).1 q.2) (sp_ml l).1 + q.1 * sp_q (sp_l (sp_ml l).1 q.2) q.2 = sm_S (sp_l (sp_ml l).1 q.2) l + q.1 * (sp_l (sp_ml l).1 q.2).tdiv q.2
        rw [← sm_S_sc (m := (sp_ml l).1) i1 d1 (fun q' hq => ⟨h q' (List.mem_cons_of_mem _ hq), j1 q' hq⟩), j2]
        unfold sp_q
        rw [if_neg (by omega), if_neg (by omega)]
    · rw [sp_ml_fr c]
      exact ⟨i1, fun q => absurd q c⟩
theorem sp_ml_fz {l1 l2 : List (Int × Int)} (h : ¬ (sp_ml l2).1 < 1000000000) : sp_ml (l1 ++ l2) = sp_ml l2 := by
  induction l1 with
  | nil => rfl
  | cons q l ih =>
    rw [List.cons_append, sp_ml_fr (by rw [ih]; exact h), ih]
/-- a draw's chances, as they lie -/
noncomputable def mr_h (B : Nat → Nat → Int) (k : Nat) : List (Int × Int) → Prop
  | [] => True
  | q :: l => (l.length < 8 → B 43 (9 * k + l.length) = q.1 ∧ B 44 (9 * k + l.length) = q.2) ∧ mr_h B k l
theorem mr_h_keep {B C : Nat → Nat → Int} {k : Nat} {l : List (Int × Int)} (h : mr_h B k l) (e : ∀ i, i < l.length → i < 8 → C 43 (9 * k + i) = B 43 (9 * k + i) ∧ C 44 (9 * k + i) = B 44 (9 * k + i)) : mr_h C k l := by
  induction l with
  | nil => exact True.intro
  | cons q l ih =>
    refine ⟨fun h8 => ?_, ih h.2 (fun i hi h8 => e i (by simp only [List.length_cons]; omega) h8)⟩
    obtain ⟨e1, e2⟩ := e l.length (by simp) h8
    rw [e1, e2]
    exact h.1 h8
theorem mr_h_drop {B : Nat → Nat → Int} {k : Nat} {l : List (Int × Int)} (h : mr_h B k l) (j : Nat) : mr_h B k (l.drop j) := by
  induction l generalizing j with
  | nil => rw [List.drop_nil]; exact True.intro
  | cons q l ih =>
    cases j with
    | zero => exact h
    | succ j => exact ih h.2 j
theorem mr_h_at {B : Nat → Nat → Int} {k n i : Nat} {l : List (Int × Int)} (h : mr_h B k l) (hl : l.length = n) (hn : n ≤ 8) (hi : i < n) : ∃ q, l.drop (n - (i + 1)) = q :: l.drop (n - i) ∧ q ∈ l ∧ B 43 (9 * k + i) = q.1 ∧ B 44 (9 * k + i) = q.2 := by
  have hlt : n - (i + 1) < l.length := by omega
  have e := List.drop_eq_getElem_cons hlt
  rw [show n - (i + 1) + 1 = n - i by omega] at e
  have d := mr_h_drop h (n - (i + 1))
  rw [e] at d
  have ll : (l.drop (n - i)).length = i := by rw [List.length_drop]; omega
  have d1 := d.1 (by omega)
  rw [ll] at d1
  exact ⟨l[n - (i + 1)], e, List.getElem_mem hlt, d1.1, d1.2⟩
theorem wv_together {z : Nat → Int} {A : Nat → Nat → Int} {k n : Nat} {l : List (Int × Int)} {Q : (Nat → Int) → Prop} (hk : k < 24) (hn : n ≤ 8) (hw : 0 ≤ A 37 k ∧ A 37 k < 4001) (hf : z 35 = 0) (hc : ∀ i, i < n → (1 ≤ A 44 (9 * k + i) ∧ A 44 (9 * k + i) ≤ 9999) ∧ (0 ≤ A 43 (9 * k + i) ∧ A 43 (9 * k + i) ≤ 9999)) (hl : l.length = n) (hh : mr_h A k l)
    (hQ : ∀ z', ((z' = z ∧ ¬ 1000000000 ≤ (sp_ml l).1 ∧ (sp_ml l).2 = (sp_ml l).1) ∨ (mo_stop z z' ∧ z' 36 = A 8 (A 37 k).toNat ∧ ((z' 35 = 6 ∧ 1000000000 ≤ (sp_ml l).1) ∨ (z' 35 = 3 ∧ ¬ 1000000000 ≤ (sp_ml l).1 ∧ ¬ (sp_ml l).2 = (sp_ml l).1)))) → Q z') : wp_together z A (k : Int) (n : Int) Q := by
  have ek : ((k : Int)).toNat = k := by omega
  have pos : ∀ q, q ∈ l → 1 ≤ q.2 := by
    intro q hq
    obtain ⟨j, hj, ej⟩ := List.getElem_of_mem hq
    obtain ⟨q', e1, -, -, e3⟩ := mr_h_at hh hl hn (show n - (j + 1) < n by omega)
    rw [show n - (n - (j + 1) + 1) = j by omega, List.drop_eq_getElem_cons hj, ej] at e1
    have e4 : q = q' := List.head_eq_of_cons_eq e1
    rw [e4, ← e3]
    exact (hc _ (by omega)).1.1
  obtain ⟨ok1, ok2⟩ := sp_ml_ok pos
  have fin : ∀ mul : Int, mul = (sp_ml l).1 → mul ≤ 10000000000000 → wp_together_55 z A (k : Int) (n : Int) mul Q := by
    intro mul em m1
    have m0 : 1 ≤ mul := by rw [em]; exact ok1
    refine ⟨⟨by omega, by omega⟩, fun small x7 hx7 => ?_, fun big => ⟨⟨by omega, by omega⟩, by rw [ek]; exact wv_stop (by decide) hw hf (fun z' h c35 c36 => hQ z' (Or.inr ⟨h, c36, Or.inl ⟨c35, by omega⟩⟩))⟩⟩
    obtain ⟨dv, es⟩ := ok2 (by rw [← em]; omega)
    intro P hP
    have key : ∀ (q i : Nat) (s : Int), n - i = q → i ≤ n → 0 ≤ s → s ≤ 10000000000000 * i → s = sm_S mul (l.drop (n - i)) → P s ((9 * k + i : Nat) : Int) := by
      intro q
      induction q with
      | zero =>
        intro i s hq hi s0 s1 e
        have ei : i = n := by omega
        rw [ei, Nat.sub_self, List.drop_zero, em, ← es] at e
        refine hP s _ ⟨⟨by omega, by omega⟩, ⟨by omega, by omega⟩, fun _ => ⟨⟨by omega, by omega⟩, ⟨by omega, by omega⟩, fun eq => hQ z (Or.inl ⟨rfl, by omega, by rw [← e, ← em]; exact eq⟩), fun ne => ⟨⟨by omega, by omega⟩, by rw [ek]; exact wv_stop (by decide) hw hf (fun z' h c35 c36 => hQ z' (Or.inr ⟨h, c36, Or.inr ⟨c35, by omega, by rw [← e, ← em]; exact ne⟩⟩))⟩⟩, fun d => by omega⟩
      | succ q ih =>
        intro i s hq hi s0 s1 e
        obtain ⟨⟨b0, b1⟩, t0, t1⟩ := hc i (by omega)
        have ei : (((9 * k + i : Nat) : Int)).toNat = 9 * k + i := by omega
        obtain ⟨q', g1, -, g2, g3⟩ := mr_h_at hh hl hn (show i < n by omega)
        refine hP s _ ⟨⟨by omega, by omega⟩, ⟨by omega, by omega⟩, fun d => by omega, fun d => ⟨⟨by omega, by omega⟩, ⟨by omega, by omega⟩, ?_⟩⟩
        rw [ei]
        refine ⟨by omega, ⟨by omega, by omega⟩, ⟨by omega, by omega⟩, fun s2 hs2 x8 hx8 => ?_⟩
        have e8 : x8 = ((9 * k + (i + 1) : Nat) : Int) := by omega
        have es2 : s2 = sm_S mul (l.drop (n - (i + 1))) := by
          rw [g1]
          simp only [sm_S]
          rw [hs2, e, g2, g3]
        rw [Int.tdiv_eq_ediv_of_nonneg (by omega)] at hs2
        have d0 : 0 ≤ mul / A 44 (9 * k + i) := Int.ediv_nonneg (by omega) (by omega)
        have d1 : mul / A 44 (9 * k + i) ≤ mul := Int.ediv_le_self _ (by omega)
        have p0 : 0 ≤ A 43 (9 * k + i) * (mul / A 44 (9 * k + i)) := Int.mul_nonneg t0 d0
        have p1 : A 43 (9 * k + i) * (mul / A 44 (9 * k + i)) ≤ 9999 * (mul / A 44 (9 * k + i)) := Int.mul_le_mul_of_nonneg_right t1 d0
        rw [e8]
        exact ih (i + 1) s2 (by omega) (by omega) (by omega) (by omega) es2
    have h := key _ 0 0 rfl (by omega) (by omega) (by omega) (by rw [Nat.sub_zero, ← hl, List.drop_length]; rfl)
    have e : x7 = ((9 * k + 0 : Nat) : Int) := by omega
    rw [e]
    exact h
  intro x hx
  intro P hP
  have key : ∀ (q i : Nat) (mul : Int), n - i = q → i ≤ n → 1 ≤ mul → mul ≤ 10000000000000 → mul = (sp_ml (l.drop (n - i))).1 → P mul ((9 * k + i : Nat) : Int) := by
    intro q
    induction q with
    | zero =>
      intro i mul hq hi m0 m1 em
      have ei : i = n := by omega
      rw [ei, Nat.sub_self, List.drop_zero] at em
      exact hP mul _ ⟨⟨by omega, by omega⟩, ⟨by omega, by omega⟩, fun _ => fin mul em m1, fun d => by omega⟩
    | succ q ih =>
      intro i mul hq hi m0 m1 em
      obtain ⟨⟨b0, b1⟩, t0, t1⟩ := hc i (by omega)
      have ei : (((9 * k + i : Nat) : Int)).toNat = 9 * k + i := by omega
      obtain ⟨q', g1, -, g2, g3⟩ := mr_h_at hh hl hn (show i < n by omega)
      refine hP mul _ ⟨⟨by omega, by omega⟩, ⟨by omega, by omega⟩, fun d => by omega, fun d => ⟨⟨by omega, by omega⟩, fun big => fin mul ?_ m1, fun sm => ⟨⟨by omega, by omega⟩, ?_⟩⟩⟩
      · have q9 := sp_ml_fz (l1 := l.take (n - i)) (l2 := l.drop (n - i)) (by rw [← em]; omega)
        rw [List.take_append_drop] at q9
        rw [q9]
        exact em
      rw [ei]
      refine wv_divisor (by omega) (by omega) (fun r er r1 ra rb => ⟨by omega, ⟨by omega, by omega⟩, ?_, ⟨by omega, by omega⟩, fun m2 hm2 x2 hx2 => ?_⟩)
      · have := Int.le_of_dvd (by omega) rb
        exact ⟨by omega, by omega⟩
      · have e : x2 = ((9 * k + (i + 1) : Nat) : Int) := by omega
        obtain ⟨c1, c2⟩ := mo_divn r1 ra
        have c3 := c2 m0
        have p1 : mul.tdiv r * 1 ≤ mul.tdiv r * A 44 (9 * k + i) := Int.mul_le_mul_of_nonneg_left b0 (by omega)
        have p2 : mul.tdiv r * A 44 (9 * k + i) ≤ mul.tdiv r * 9999 := Int.mul_le_mul_of_nonneg_left b1 (by omega)
        have em2 : m2 = (sp_ml (l.drop (n - (i + 1)))).1 := by
          rw [g1, sp_ml_go (by rw [← em]; omega)]
          show m2 = sp_l (sp_ml (l.drop (n - i))).1 q'.2
          rw [← em, ← g3, hm2]
          unfold sp_l sp_q
          rw [← er, if_neg (by omega)]
        rw [e]
        exact ih (i + 1) m2 (by omega) (by omega) (by omega) (by omega) em2
  have h := key _ 0 1 rfl (by omega) (by omega) (by omega) (by rw [Nat.sub_zero, ← hl, List.drop_length]; rfl)
  have e : x = ((9 * k + 0 : Nat) : Int) := by omega
  rw [e]
  exact h
