/-- greatest common divisor, quotient, least common multiple -/
noncomputable def sp_g (a b : Int) : Int := (Int.gcd a b : Int)
noncomputable def sp_q (x g : Int) : Int := if g = 0 then 0 else x.tdiv g
noncomputable def sp_l (a b : Int) : Int := sp_q a (sp_g a b) * b
theorem sp_gst {x y : Int} (hx : 0 ≤ x) (hy : 0 ≤ y) : Int.gcd y (x % y) = Int.gcd x y := by
  obtain ⟨X, rfl⟩ := Int.eq_ofNat_of_zero_le hx
  obtain ⟨Y, rfl⟩ := Int.eq_ofNat_of_zero_le hy
  have e : ((X : Int) % (Y : Int)) = ((X % Y : Nat) : Int) := rfl
  rw [e]
  show Nat.gcd Y (X % Y) = Nat.gcd X Y
  rw [Nat.gcd_comm Y, ← Nat.gcd_rec, Nat.gcd_comm]
theorem sp_g0 {x : Int} (hx : 0 ≤ x) : (Int.gcd x 0 : Int) = x := by
  rw [Int.gcd_zero_right]
  omega
theorem sp_gabs {a b x y : Int} (hx : x = a ∨ x = -a) (hy : y = b ∨ y = -b) : Int.gcd x y = Int.gcd a b := by
  have ex : x.natAbs = a.natAbs := by omega
  have ey : y.natAbs = b.natAbs := by omega
  unfold Int.gcd
  rw [ex, ey]
theorem sp_q_of {x g u : Int} (h3 : 0 < g → u = x.tdiv g) (h4 : g = 0 → u = 0) (h : 0 ≤ g) : u = sp_q x g := by
  unfold sp_q
  by_cases c : g = 0
  · rw [if_pos c]; exact h4 c
  · rw [if_neg c]; exact h3 (by omega)
theorem sp_g_nn (a b : Int) : 0 ≤ sp_g a b := by unfold sp_g; omega
/-- an open node: its word, its kind, its player, its set, the move that is gone through, chance above and below, a draw's chances so far (the latest first) -/
noncomputable abbrev sp_F := Nat × Int × Nat × Nat × Int × Int × Int × List (Int × Int)
/-- fault, place, the word that is looked at, what is known, what is open (the latest first) -/
noncomputable abbrev sp_S := Int × Int × Nat × (Nat → Nat → Int) × List sp_F
/-- the words: kinds, places, numbers -/
noncomputable abbrev sp_T := (Nat → Int) × (Nat → Int) × (Nat → Int)
noncomputable def sp_x (f b : Int) : sp_S := (f, b, 0, fun _ _ => 0, [])
/-- the latest deed of a player -/
noncomputable def sp_dd (t : Nat) : List sp_F → Int
  | [] => -1
  | f :: F => if f.2.1 ≠ 63 ∧ f.2.2.1 = t then (f.2.2.2.1 : Int) * 512 + f.2.2.2.2.1 else sp_dd t F
/-- a fraction: where its number stands, above, below, behind it -/
noncomputable def sp_fs (T : sp_T) (k : Nat) : Nat := if T.1 k = 45 then k + 1 else k
noncomputable def sp_ft (T : sp_T) (k : Nat) : Int := if T.1 k = 45 then -(T.2.2 (k + 1)) else T.2.2 k
noncomputable def sp_fb (T : sp_T) (k : Nat) : Int := if T.1 (sp_fs T k + 1) = 47 then T.2.2 (sp_fs T k + 2) else 1
noncomputable def sp_fe (T : sp_T) (k : Nat) : Nat := if T.1 (sp_fs T k + 1) = 47 then sp_fs T k + 3 else sp_fs T k + 1
noncomputable def sp_rt (T : sp_T) (k : Nat) : Int := sp_q (sp_ft T k) (sp_g (sp_ft T k) (sp_fb T k))
noncomputable def sp_rb (T : sp_T) (k : Nat) : Int := sp_q (sp_fb T k) (sp_g (sp_ft T k) (sp_fb T k))
/-- the first place of a number among n, or -1 -/
noncomputable def sp_fd (f : Nat → Int) (v : Int) : Nat → Int
  | 0 => -1
  | n + 1 => if sp_fd f v n ≠ -1 then sp_fd f v n else if f n = v then (n : Int) else -1
/-- a new set -/
noncomputable def sp_ns (σ : Nat → Nat → Int) (t : Nat) (v d : Int) : Nat → Nat → Int := hz_s (hz_s (hz_s (hz_s (hz_s σ (10 + t) (σ 1 t) v) (12 + t) (σ 1 t) 0) (14 + t) (σ 1 t) (if d = -1 then 0 else σ (14 + t) (d / 512).toNat + 1)) (16 + t) (σ 1 t) d) 1 (t : Int) (σ 1 t + 1)
/-- a new end -/
noncomputable def sp_en (σ : Nat → Nat → Int) (top bot t b dA dB : Int) : Nat → Nat → Int := hz_s (hz_s (hz_s (hz_s (hz_s σ 20 (σ 0 1) (sp_q top (sp_g top b) * sp_q t (sp_g t bot))) 21 (σ 0 1) (sp_q bot (sp_g t bot) * sp_q b (sp_g top b))) 22 (σ 0 1) dA) 23 (σ 0 1) dB) 0 1 (σ 0 1 + 1)
noncomputable def sp_be (T : sp_T) (σ : Nat → Nat → Int) (k : Nat) (F : List sp_F) (top bot : Int) : sp_S := if 1000000000 ≤ bot then sp_x 6 (T.2.1 k) else if sp_fb T (k + 1) = 0 then sp_x 3 (T.2.1 (k + 1)) else (0, -1, sp_fe T (k + 1) + 1, sp_en σ top bot (sp_rt T (k + 1)) (sp_rb T (k + 1)) (sp_dd 0 F) (sp_dd 1 F), F)
noncomputable def sp_bd (T : sp_T) (σ : Nat → Nat → Int) (k : Nat) (F : List sp_F) (top bot : Int) : sp_S := if 1000000000 ≤ bot then sp_x 6 (T.2.1 k) else (0, -1, k + 2, hz_s σ 0 2 (σ 0 2 + 1), (k, 63, 0, 0, -1, top, bot, []) :: F)
noncomputable def sp_bc (T : sp_T) (σ : Nat → Nat → Int) (t k : Nat) (F : List sp_F) (top bot : Int) : sp_S :=
  if sp_fd (σ (10 + t)) (T.2.2 (k + 1)) (σ 1 t).toNat = -1 ∧ 10 ≤ σ 1 t then sp_x 2 (T.2.1 k)
  else if 1000000000 ≤ bot then sp_x 6 (T.2.1 k)
  else if sp_fd (σ (10 + t)) (T.2.2 (k + 1)) (σ 1 t).toNat = -1 then (0, -1, k + 3, hz_s (sp_ns σ t (T.2.2 (k + 1)) (sp_dd t F)) 0 3 (σ 0 3 + 1), (k, T.1 k, t, (σ 1 t).toNat, -1, top, bot, []) :: F)
  else if σ (16 + t) (sp_fd (σ (10 + t)) (T.2.2 (k + 1)) (σ 1 t).toNat).toNat = sp_dd t F then (0, -1, k + 3, hz_s σ 0 3 (σ 0 3 + 1), (k, T.1 k, t, (sp_fd (σ (10 + t)) (T.2.2 (k + 1)) (σ 1 t).toNat).toNat, -1, top, bot, []) :: F)
  else sp_x 4 (T.2.1 k)
/-- a node begins -/
noncomputable def sp_bg (T : sp_T) (σ : Nat → Nat → Int) (k : Nat) (F : List sp_F) (top bot : Int) : sp_S :=
  if 400 ≤ σ 0 0 then sp_x 2 (T.2.1 k) else if 20 < F.length then sp_x 2 (T.2.1 k)
  else if T.1 k = 91 then sp_be T (hz_s σ 0 0 (σ 0 0 + 1)) k F top bot
  else if T.1 k = 63 then sp_bd T (hz_s σ 0 0 (σ 0 0 + 1)) k F top bot
  else sp_bc T (hz_s σ 0 0 (σ 0 0 + 1)) (if T.1 k = 65 then 0 else 1) k F top bot
/-- least common multiple of what stands below, and the sum above it -/
noncomputable def sp_ml : List (Int × Int) → Int × Int
  | [] => (1, 0)
  | q :: l => if (sp_ml l).1 < 1000000000 then (sp_l (sp_ml l).1 q.2, (sp_ml l).2 * sp_q (sp_l (sp_ml l).1 q.2) (sp_ml l).1 + q.1 * sp_q (sp_l (sp_ml l).1 q.2) q.2) else sp_ml l
/-- a node is over -/
noncomputable def sp_fi (T : sp_T) (σ : Nat → Nat → Int) (k : Nat) (f : sp_F) (F : List sp_F) : sp_S :=
  if f.2.1 = 63 then (if 8 < f.2.2.2.2.1 + 1 then sp_x 2 (T.2.1 f.1) else if 1000000000 ≤ (sp_ml f.2.2.2.2.2.2.2).1 then sp_x 6 (T.2.1 f.1) else if (sp_ml f.2.2.2.2.2.2.2).2 = (sp_ml f.2.2.2.2.2.2.2).1 then (0, -1, k + 1, σ, F) else sp_x 3 (T.2.1 f.1))
  else if 4 < f.2.2.2.2.1 + 1 then sp_x 2 (T.2.1 f.1)
  else if σ (12 + f.2.2.1) f.2.2.2.1 = 0 then (0, -1, k + 1, hz_s σ (12 + f.2.2.1) (f.2.2.2.1 : Int) (f.2.2.2.2.1 + 1), F)
  else if σ (12 + f.2.2.1) f.2.2.2.1 = f.2.2.2.2.1 + 1 then (0, -1, k + 1, σ, F) else sp_x 5 (T.2.1 f.1)
/-- the next move of the latest open node, k: its first word -/
noncomputable def sp_nx (T : sp_T) (σ : Nat → Nat → Int) (k : Nat) (f : sp_F) (F : List sp_F) : sp_S :=
  if f.2.1 = 63 then (if sp_fb T k = 0 ∨ sp_ft T k ≤ 0 ∨ sp_fb T k < sp_ft T k then sp_x 3 (T.2.1 k)
    else sp_bg T σ (sp_fe T k + 1) ((f.1, f.2.1, f.2.2.1, f.2.2.2.1, f.2.2.2.2.1 + 1, f.2.2.2.2.2.1, f.2.2.2.2.2.2.1, (sp_rt T k, sp_rb T k) :: f.2.2.2.2.2.2.2) :: F) (sp_q (f.2.2.2.2.2.1 * sp_rt T k) (sp_g (f.2.2.2.2.2.1 * sp_rt T k) (f.2.2.2.2.2.2.1 * sp_rb T k))) (sp_q (f.2.2.2.2.2.2.1 * sp_rb T k) (sp_g (f.2.2.2.2.2.1 * sp_rt T k) (f.2.2.2.2.2.2.1 * sp_rb T k))))
  else sp_bg T σ k ((f.1, f.2.1, f.2.2.1, f.2.2.2.1, f.2.2.2.2.1 + 1, f.2.2.2.2.2.1, f.2.2.2.2.2.2.1, f.2.2.2.2.2.2.2) :: F) f.2.2.2.2.2.1 f.2.2.2.2.2.2.1
/-- one step -/
noncomputable def sp_go (T : sp_T) (s : sp_S) : sp_S :=
  if s.1 = 0 then (match s.2.2.2.2 with
    | [] => s
    | f :: F => if 0 ≤ f.2.2.2.2.1 then (if T.1 s.2.2.1 = 44 then sp_nx T s.2.2.2.1 (s.2.2.1 + 1) f F else sp_fi T s.2.2.2.1 s.2.2.1 f F) else sp_nx T s.2.2.2.1 s.2.2.1 f F)
  else s
noncomputable def sp_it (T : sp_T) : Nat → sp_S → sp_S
  | 0, s => s
  | n + 1, s => sp_it T n (sp_go T s)
noncomputable def sp_r (T : sp_T) (s s' : sp_S) : Prop := ∃ n, sp_it T n s = s'
theorem sp_r_refl (T : sp_T) (s : sp_S) : sp_r T s s := ⟨0, rfl⟩
theorem sp_it_add (T : sp_T) (m n : Nat) (s : sp_S) : sp_it T (m + n) s = sp_it T n (sp_it T m s) := by
  induction m generalizing s with
  | zero => rw [Nat.zero_add]; rfl
  | succ m ih =>
    rw [show m + 1 + n = (m + n) + 1 by omega]
    exact ih (sp_go T s)
theorem sp_r_trans {T : sp_T} {s s' s'' : sp_S} (h1 : sp_r T s s') (h2 : sp_r T s' s'') : sp_r T s s'' := by
  obtain ⟨m, h1⟩ := h1
  obtain ⟨n, h2⟩ := h2
  exact ⟨m + n, by rw [sp_it_add, h1, h2]⟩
theorem sp_r_step {T : sp_T} {s s' : sp_S} (h : sp_r T (sp_go T s) s') : sp_r T s s' := by
  obtain ⟨n, h⟩ := h
  exact ⟨n + 1, h⟩
theorem sp_it_fix {T : sp_T} {s : sp_S} (h : sp_go T s = s) (n : Nat) : sp_it T n s = s := by
  induction n with
  | zero => rfl
  | succ n ih =>
    show sp_it T n (sp_go T s) = s
    rw [h]
    exact ih
/-- what comes to rest comes to rest at one place -/
theorem sp_r_uniq {T : sp_T} {s a b : sp_S} (h1 : sp_r T s a) (h2 : sp_r T s b) (ha : sp_go T a = a) (hb : sp_go T b = b) : a = b := by
  obtain ⟨m, h1⟩ := h1
  obtain ⟨n, h2⟩ := h2
  rcases Nat.le_total m n with h | h
  · obtain ⟨q, rfl⟩ : ∃ q, n = m + q := ⟨n - m, by omega⟩
    rw [sp_it_add, h1, sp_it_fix ha] at h2
    exact h2
  · obtain ⟨q, rfl⟩ : ∃ q, m = n + q := ⟨m - n, by omega⟩
    rw [sp_it_add, h2, sp_it_fix hb] at h1
    exact h1.symm
theorem sp_rest_x (T : sp_T) {f b : Int} (h : f ≠ 0) : sp_go T (sp_x f b) = sp_x f b := by
  unfold sp_go
  rw [if_neg (show ¬ (sp_x f b).1 = 0 from h)]
theorem sp_rest_e (T : sp_T) (f b : Int) (k : Nat) (σ : Nat → Nat → Int) : sp_go T (f, b, k, σ, []) = (f, b, k, σ, []) := by
  unfold sp_go
  split
  · rfl
  · rfl
/-- at the text's end -/
noncomputable def sp_cm (σ : Nat → Nat → Int) : Nat → Int
  | 0 => 1
  | j + 1 => if 1000000000 ≤ sp_cm σ j then sp_cm σ j else if 1000000000 ≤ σ 21 j then 1000000000 else sp_l (sp_cm σ j) (σ 21 j)
noncomputable def sp_pl (σ : Nat → Nat → Int) (t : Nat) : Int := cPm (σ (12 + t)) (σ 1 t).toNat
noncomputable def sp_we (σ : Nat → Nat → Int) (j : Nat) : Int := sp_q (sp_cm σ (σ 0 1).toNat) (σ 21 j) * σ 20 j
noncomputable def sp_wl (σ : Nat → Nat → Int) : Prop := ∃ j : Nat, (j : Int) < σ 0 1 ∧ 1000000000 ≤ ((sp_we σ j).natAbs : Int)
noncomputable def sp_oc (σ : Nat → Nat → Int) (f : Int) : Prop :=
  ((64 < sp_pl σ 0 ∨ 64 < sp_pl σ 1) ∧ f = 2) ∨ (¬ (64 < sp_pl σ 0 ∨ 64 < sp_pl σ 1) ∧ (1000000000 ≤ sp_cm σ (σ 0 1).toNat ∨ sp_wl σ) ∧ f = 6) ∨ (¬ (64 < sp_pl σ 0 ∨ 64 < sp_pl σ 1) ∧ ¬ (1000000000 ≤ sp_cm σ (σ 0 1).toNat ∨ sp_wl σ) ∧ f = 0)
theorem sp_oc_uniq {σ : Nat → Nat → Int} {f g : Int} (h1 : sp_oc σ f) (h2 : sp_oc σ g) : f = g := by
  rcases h1 with ⟨a, b⟩ | ⟨a, b, c⟩ | ⟨a, b, c⟩ <;> rcases h2 with ⟨d, e⟩ | ⟨d, e, g'⟩ | ⟨d, e, g'⟩
  · rw [b, e]
  · exact absurd a d
  · exact absurd a d
  · exact absurd d a
  · rw [c, g']
  · exact absurd b e
  · exact absurd d a
  · exact absurd e b
  · rw [c, g']
/-- one step of the grammar leads to one place -/
theorem cq_s_uniq {d e k d1 d2 e1 e2 : Int} {st s1 s2 : List Int} (h1 : cq_s d st e k d1 s1 e1) (h2 : cq_s d st e k d2 s2 e2) : d1 = d2 ∧ s1 = s2 ∧ e1 = e2 := by
  have hd : d = 1 ∨ d = 2 ∨ d = 3 ∨ d = 4 ∨ d = 5 ∨ d = 6 ∨ d = 7 ∨ d = 8 ∨ d = 9 ∨ d = 10 := by
    rcases h1 with h | h | h | h | h | h | h | h | h | h | h | h | h | h <;> omega
  have nine : ∀ {d1 d2 e1 e2 : Int} {s1 s2 : List Int}, cq_s 9 st e k d1 s1 e1 → cq_s 9 st e k d2 s2 e2 → d1 = d2 ∧ s1 = s2 ∧ e1 = e2 := by
    intro d1 d2 e1 e2 s1 s2 h1 h2
    obtain ⟨a, b, c⟩ := cq_9 h1
    obtain ⟨a', b', c'⟩ := cq_9 h2
    exact ⟨by omega, by rw [a, a'], by omega⟩
  rcases hd with h | h | h | h | h | h | h | h | h | h <;> subst h
  · obtain ⟨a, b⟩ := cq_1 h1
    obtain ⟨a', b'⟩ := cq_1 h2
    exact ⟨by omega, by rw [a, a'], by omega⟩
  · obtain ⟨a, b, c, g⟩ := cq_2 h1
    obtain ⟨a', b', c', g'⟩ := cq_2 h2
    exact ⟨by omega, by rw [a, a'], by omega⟩
  · obtain ⟨a, b, c, g⟩ := cq_3 h1
    obtain ⟨a', b', c', g'⟩ := cq_3 h2
    exact ⟨by omega, by rw [a, a'], by omega⟩
  · obtain ⟨a, b, c, g⟩ := cq_4 h1
    obtain ⟨a', b', c', g'⟩ := cq_4 h2
    exact ⟨by omega, by rw [a, a'], by omega⟩
  · obtain ⟨a, b, c⟩ := cq_5 h1
    obtain ⟨a', b', c'⟩ := cq_5 h2
    exact ⟨by omega, by rw [a, a'], by omega⟩
  · obtain ⟨a, b, c, g⟩ := cq_6 h1
    obtain ⟨a', b', c', g'⟩ := cq_6 h2
    exact ⟨by omega, by rw [a, a'], by omega⟩
  · rcases cq_7 h1 with ⟨a, b, c, g⟩ | ⟨a, b⟩ <;> rcases cq_7 h2 with ⟨a', b', c', g'⟩ | ⟨a', b'⟩
    · exact ⟨by omega, by rw [b, b'], by omega⟩
    · exact absurd a a'
    · exact absurd a' a
    · exact nine b b'
  · obtain ⟨a, b, c, g⟩ := cq_8 h1
    obtain ⟨a', b', c', g'⟩ := cq_8 h2
    exact ⟨by omega, by rw [a, a'], by omega⟩
  · exact nine h1 h2
  · obtain ⟨a, b⟩ := cq_10 h1
    obtain ⟨a', b'⟩ := cq_10 h2
    rcases b with ⟨b1, ⟨x, b2⟩, b3⟩ | ⟨b1, b2, b3⟩ <;> rcases b' with ⟨c1, ⟨y, c2⟩, c3⟩ | ⟨c1, c2, c3⟩
    · rw [b2] at c2
      exact ⟨by omega, List.tail_eq_of_cons_eq c2, by omega⟩
    · omega
    · omega
    · refine ⟨?_, by rw [b2, c2], by omega⟩
      rcases b3 with ⟨⟨t, b3⟩, b4⟩ | ⟨⟨t, b3⟩, b4⟩ <;> rcases c3 with ⟨⟨u, c3⟩, c4⟩ | ⟨⟨u, c3⟩, c4⟩
      · omega
      · rw [b3] at c3
        have : (0 : Int) = 1 := List.head_eq_of_cons_eq c3
        omega
      · rw [b3] at c3
        have : (1 : Int) = 0 := List.head_eq_of_cons_eq c3
        omega
      · omega
/-- where the grammar stands ahead of word k -/
noncomputable def sp_au (kc : Nat → Int) : Nat → Int → List Int → Int → Prop
  | 0, d, st, e => d = 1 ∧ st = [] ∧ e = 0
  | k + 1, d', st', e' => ∃ (d : Int) (st : List Int) (e : Int), sp_au kc k d st e ∧ ¬ kc k = 0 ∧ cq_s d st e (kc k) d' st' e'
theorem sp_au_uniq {kc : Nat → Int} {k : Nat} {d1 d2 e1 e2 : Int} {s1 s2 : List Int} (h1 : sp_au kc k d1 s1 e1) (h2 : sp_au kc k d2 s2 e2) : d1 = d2 ∧ s1 = s2 ∧ e1 = e2 := by
  induction k generalizing d1 d2 e1 e2 s1 s2 with
  | zero =>
    obtain ⟨a, b, c⟩ := h1
    obtain ⟨a', b', c'⟩ := h2
    exact ⟨by omega, by rw [b, b'], by omega⟩
  | succ k ih =>
    obtain ⟨d, st, e, a, -, b⟩ := h1
    obtain ⟨d', st', e', a', -, b'⟩ := h2
    obtain ⟨x, y, v⟩ := ih a a'
    subst x y v
    exact cq_s_uniq b b'
theorem sp_au_le {kc : Nat → Int} {j k : Nat} {d e : Int} {st : List Int} (h : sp_au kc k d st e) (hj : j ≤ k) : ∃ d' st' e', sp_au kc j d' st' e' := by
  induction k generalizing d e st with
  | zero => exact ⟨d, st, e, by rw [show j = 0 by omega]; exact h⟩
  | succ k ih =>
    by_cases c : j = k + 1
    · rw [c]; exact ⟨d, st, e, h⟩
    · obtain ⟨d', st', e', a, -⟩ := h
      exact ih a (by omega)
/-- word k can't stand; the text is one, word k its end -/
noncomputable def sp_no (kc : Nat → Int) (k : Nat) : Prop := ∃ (d : Int) (st : List Int) (e : Int), sp_au kc k d st e ∧ ((kc k = 0 ∧ ¬ (d = 10 ∧ st = [])) ∨ (¬ kc k = 0 ∧ ∀ d' st' e', ¬ cq_s d st e (kc k) d' st' e'))
noncomputable def sp_ok (kc : Nat → Int) (k : Nat) : Prop := ∃ e : Int, sp_au kc k 10 [] e ∧ kc k = 0
theorem sp_no_lt {kc : Nat → Int} {j k : Nat} {d e : Int} {st : List Int} (h : sp_no kc j) (hk : j < k) : ¬ sp_au kc k d st e := by
  intro h2
  obtain ⟨d', st', e', h3⟩ := sp_au_le (j := j + 1) h2 hk
  obtain ⟨a, b, c, h4, h5, h6⟩ := h3
  obtain ⟨a', b', c', h7, h8⟩ := h
  obtain ⟨x, y, v⟩ := sp_au_uniq h4 h7
  subst x y v
  rcases h8 with ⟨h8, -⟩ | ⟨-, h8⟩
  · exact h5 h8
  · exact h8 _ _ _ h6
theorem sp_no_uniq {kc : Nat → Int} {j k : Nat} (h1 : sp_no kc j) (h2 : sp_no kc k) : j = k := by
  rcases Nat.lt_trichotomy j k with h | h | h
  · obtain ⟨d, st, e, a, -⟩ := h2
    exact absurd a (sp_no_lt h1 h)
  · exact h
  · obtain ⟨d, st, e, a, -⟩ := h1
    exact absurd a (sp_no_lt h2 h)
theorem sp_no_ok {kc : Nat → Int} {j k : Nat} (h1 : sp_no kc j) (h2 : sp_ok kc k) : False := by
  obtain ⟨e, h2, h3⟩ := h2
  rcases Nat.lt_trichotomy j k with h | h | h
  · exact sp_no_lt h1 h h2
  · subst h
    obtain ⟨d, st, e', a, b⟩ := h1
    obtain ⟨x, y, v⟩ := sp_au_uniq a h2
    rcases b with ⟨-, b⟩ | ⟨b, -⟩
    · exact b ⟨x, y⟩
    · exact b h3
  · obtain ⟨d, st, e', a, -⟩ := h1
    obtain ⟨d', st', e'', h4⟩ := sp_au_le (j := k + 1) a h
    obtain ⟨_, _, _, -, h5, -⟩ := h4
    exact h5 h3
/-- what read() answers, and where its fault stands -/
noncomputable def sp_R (T : sp_T) (n f b : Int) : Prop :=
  (∃ k, sp_no T.1 k ∧ f = 1 ∧ b = T.2.1 k) ∨ (∃ k, sp_ok T.1 k ∧ ((¬ f = 0 ∧ sp_r T (sp_bg T (fun _ _ => 0) 0 [] 1 1) (sp_x f b)) ∨ ∃ (k' : Nat) (σ : Nat → Nat → Int), sp_r T (sp_bg T (fun _ _ => 0) 0 [] 1 1) (0, -1, k', σ, []) ∧ sp_oc σ f ∧ ((f = 0 ∧ b = -1) ∨ (¬ f = 0 ∧ b = n))))
theorem sp_R_uniq {T : sp_T} {n f b f' b' : Int} (h1 : sp_R T n f b) (h2 : sp_R T n f' b') : f = f' ∧ b = b' := by
  rcases h1 with ⟨k, a, c, d⟩ | ⟨k, a, c⟩ <;> rcases h2 with ⟨k', a', c', d'⟩ | ⟨k', a', c'⟩
  · have e := sp_no_uniq a a'
    subst e
    exact ⟨by omega, by omega⟩
  · exact (sp_no_ok a a').elim
  · exact (sp_no_ok a' a).elim
  · rcases c with ⟨c, d⟩ | ⟨q, σ, c, d, g⟩ <;> rcases c' with ⟨c', d'⟩ | ⟨q', σ', c', d', g'⟩
    · have e := sp_r_uniq d d' (sp_rest_x T c) (sp_rest_x T c')
      have e1 : f = f' := congrArg (fun s => s.1) e
      have e2 : b = b' := congrArg (fun s => s.2.1) e
      exact ⟨e1, e2⟩
    · have e := sp_r_uniq d c' (sp_rest_x T c) (sp_rest_e T _ _ _ _)
      have e1 : f = 0 := congrArg (fun s => s.1) e
      exact absurd e1 c
    · have e := sp_r_uniq d' c (sp_rest_x T c') (sp_rest_e T _ _ _ _)
      have e1 : f' = 0 := congrArg (fun s => s.1) e
      exact absurd e1 c'
    · have e := sp_r_uniq c c' (sp_rest_e T _ _ _ _) (sp_rest_e T _ _ _ _)
      have e1 : σ = σ' := congrArg (fun s => s.2.2.2.1) e
      subst e1
      have e2 := sp_oc_uniq d d'
      exact ⟨e2, by omega⟩
