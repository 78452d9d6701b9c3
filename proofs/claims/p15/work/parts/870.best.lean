/-- sums -/
theorem cS_add (f g : Nat → Int) (n : Nat) : cS (fun i => f i + g i) n = cS f n + cS g n := by
  induction n with
  | zero => rfl
  | succ n ih =>
    simp only [cS]
    rw [ih]
    omega
theorem cS_zero {f : Nat → Int} {n : Nat} (h : ∀ i, i < n → f i = 0) : cS f n = 0 := by
  induction n with
  | zero => rfl
  | succ n ih =>
    simp only [cS]
    rw [ih (fun i hi => h i (by omega)), h n (by omega)]
    rfl
theorem cS_one {f : Nat → Int} {n q : Nat} (hq : q < n) (h : ∀ i, i < n → i ≠ q → f i = 0) : cS f n = f q := by
  induction n with
  | zero => omega
  | succ n ih =>
    simp only [cS]
    by_cases e : q = n
    · subst e
      rw [cS_zero (fun i hi => h i (by omega) (by omega))]
      omega
    · rw [ih (by omega) (fun i hi hne => h i (by omega) hne), h n (by omega) (fun c => e c.symm)]
      omega
theorem cS_mulr (f : Nat → Int) (c : Int) (n : Nat) : cS (fun i => f i * c) n = cS f n * c := by
  induction n with
  | zero => simp [cS]
  | succ n ih =>
    simp only [cS]
    rw [ih, Int.add_mul]
theorem cS_comm (f : Nat → Nat → Int) (m n : Nat) : cS (fun i => cS (f i) n) m = cS (fun j => cS (fun i => f i j) m) n := by
  induction m with
  | zero => exact (cS_zero (fun i _ => rfl)).symm
  | succ m ih =>
    have e : cS (fun i => cS (f i) n) (m + 1) = cS (fun i => cS (f i) n) m + cS (f m) n := rfl
    rw [e, ih]
    exact (cS_add (fun j => cS (fun i => f i j) m) (f m) n).symm
/-- in the first place in which they differ x is the lesser -/
noncomputable def rb_lt (n : Nat) (x y : Nat → Int) : Prop := ∃ s, s < n ∧ x s < y s ∧ ∀ i, i < s → x i = y i
/-- a plan: a move for each set -/
noncomputable def rb_pl (n : Nat) (m x : Nat → Int) : Prop := ∀ s, s < n → 0 ≤ x s ∧ x s < m s
/-- the first of the best plans -/
noncomputable def rb_B (n : Nat) (m : Nat → Int) (V : (Nat → Int) → Int) (k : Nat → Int) : Prop := rb_pl n m k ∧ ∀ x, rb_pl n m x → V x ≤ V k ∧ (rb_lt n x k → V x < V k)
theorem rb_tri (n : Nat) (x y : Nat → Int) : (∀ s, s < n → x s = y s) ∨ rb_lt n x y ∨ rb_lt n y x := by
  induction n with
  | zero => exact Or.inl (fun s hs => absurd hs (Nat.not_lt_zero s))
  | succ n ih =>
    rcases ih with h | ⟨s, h1, h2, h3⟩ | ⟨s, h1, h2, h3⟩
    · rcases Int.lt_trichotomy (x n) (y n) with c | c | c
      · exact Or.inr (Or.inl ⟨n, by omega, c, h⟩)
      · refine Or.inl (fun s hs => ?_)
        by_cases e : s = n
        · rw [e]; exact c
        · exact h s (by omega)
      · exact Or.inr (Or.inr ⟨n, by omega, c, fun i hi => (h i hi).symm⟩)
    · exact Or.inr (Or.inl ⟨s, by omega, h2, h3⟩)
    · exact Or.inr (Or.inr ⟨s, by omega, h2, h3⟩)
theorem rb_u {n : Nat} {m : Nat → Int} {V : (Nat → Int) → Int} {k k' : Nat → Int} (h : rb_B n m V k) (h' : rb_B n m V k') : ∀ s, s < n → k s = k' s := by
  rcases rb_tri n k k' with e | e | e
  · exact e
  · have a := (h'.2 k h.1).2 e
    have b := (h.2 k' h'.1).1
    omega
  · have a := (h.2 k' h'.1).2 e
    have b := (h'.2 k h.1).1
    omega
/-- only the order of the values counts -/
theorem rb_scale {n : Nat} {m : Nat → Int} {V W : (Nat → Int) → Int} {k : Nat → Int} (h : rb_B n m V k) (e : ∀ x y, rb_pl n m x → rb_pl n m y → V x ≤ V y → W x ≤ W y) (e' : ∀ x y, rb_pl n m x → rb_pl n m y → V x < V y → W x < W y) : rb_B n m W k :=
  ⟨h.1, fun x hx => ⟨e x k hx h.1 (h.2 x hx).1, fun c => e' x k hx h.1 ((h.2 x hx).2 c)⟩⟩
/-- the sets that a plan comes to -/
noncomputable def rq_C (n : Nat) (d x : Nat → Int) (R : Nat → Bool) : Prop := ∀ s, s < n → (R s = true ↔ (d s = -1 ∨ (x (d s / 512).toNat = d s % 512 ∧ R (d s / 512).toNat = true)))
noncomputable def rq_R (d x : Nat → Int) : Nat → Nat → Bool
  | 0 => fun _ => false
  | n + 1 => lp_U (rq_R d x n) n (decide (d n = -1) || (decide (x (d n / 512).toNat = d n % 512) && rq_R d x n (d n / 512).toNat))
noncomputable def rq_d (n : Nat) (d : Nat → Int) : Prop := ∀ s, s < n → d s = -1 ∨ (0 ≤ d s ∧ d s / 512 < (s : Int))
theorem rq_R_C {n : Nat} {d x : Nat → Int} (hd : rq_d n d) : rq_C n d x (rq_R d x n) := by
  induction n with
  | zero => intro s hs; omega
  | succ n ih =>
    intro s hs
    have low : ∀ i, i < n → rq_R d x (n + 1) i = rq_R d x n i := fun i hi => lp_U_other (by omega)
    by_cases e : s = n
    · subst e
      have top : rq_R d x (s + 1) s = (decide (d s = -1) || (decide (x (d s / 512).toNat = d s % 512) && rq_R d x s (d s / 512).toNat)) := lp_U_same _ _ _
      rw [top, Bool.or_eq_true, Bool.and_eq_true, decide_eq_true_eq, decide_eq_true_eq]
      rcases hd s (by omega) with c | ⟨c1, c2⟩
      · exact ⟨fun _ => Or.inl c, fun _ => Or.inl c⟩
      · rw [low (d s / 512).toNat (by omega)]
    · rw [low s (by omega), ih (fun i hi => hd i (by omega)) s (by omega)]
      rcases hd s (by omega) with c | ⟨c1, c2⟩
      · exact ⟨fun _ => Or.inl c, fun _ => Or.inl c⟩
      · rw [low (d s / 512).toNat (by omega)]
theorem rq_C_agree {n k : Nat} {d x y : Nat → Int} {R R' : Nat → Bool} (hd : rq_d n d) (h : rq_C n d x R) (h' : rq_C n d y R') (e : ∀ i, i < k → x i = y i) : ∀ i, i ≤ k → i < n → R i = R' i := by
  have key : ∀ N i, i < N → i ≤ k → i < n → R i = R' i := by
    intro N
    induction N with
    | zero => intro i hi; omega
    | succ N ih =>
      intro i hi hik hin
      have q := h i hin
      have q' := h' i hin
      have iff : (R i = true ↔ R' i = true) := by
        rcases hd i hin with c | ⟨c1, c2⟩
        · exact ⟨fun _ => q'.mpr (Or.inl c), fun _ => q.mpr (Or.inl c)⟩
        · have er := ih (d i / 512).toNat (by omega) (by omega) (by omega)
          have ex := e (d i / 512).toNat (by omega)
          rw [er, ex] at q
          exact q.trans q'.symm
      exact Bool.eq_iff_iff.mpr iff
  exact fun i hi hn => key (i + 1) i (by omega) hi hn
/-- what a plan gets: line 0, and of each set that it comes to its move's line -/
noncomputable def rq_V (g : Nat → Int) (ln x : Nat → Int) (R : Nat → Bool) (n : Nat) : Int := g 0 + cS (fun s => if R s = true then g (ln s + x s).toNat else 0) n
/-- a side's lines: those of its sets in their order, and what is before each set -/
noncomputable def rq_L (n : Nat) (N : Int) (m ln d p : Nat → Int) : Prop := 1 ≤ N ∧ (∀ s, s < n → 1 ≤ ln s ∧ 1 ≤ m s ∧ ln s + m s ≤ N) ∧ (∀ s q, s < q → q < n → ln s + m s ≤ ln q) ∧ ∀ s, s < n → (d s = -1 ∧ p s = 0) ∨ (0 ≤ d s ∧ d s / 512 < (s : Int) ∧ d s % 512 < m (d s / 512).toNat ∧ p s = ln (d s / 512).toNat + d s % 512)
theorem rq_L_d {n : Nat} {N : Int} {m ln d p : Nat → Int} (h : rq_L n N m ln d p) : rq_d n d := fun s hs => by
  rcases h.2.2.2 s hs with c | c
  · exact Or.inl c.1
  · exact Or.inr ⟨c.1, c.2.1⟩
/-- a deed's line is met once, if the plan does the deed -/
theorem rq_cnt {n k : Nat} {m ln x : Nat → Int} {R : Nat → Bool} {d p b : Int} {t : Bool} (h1 : ∀ s, s < n → 1 ≤ ln s) (h2 : ∀ s q, s < q → q < n → ln s + m s ≤ ln q) (hx : rb_pl n m x) (hk : k ≤ n) (hd : (d = -1 ∧ p = 0) ∨ (0 ≤ d ∧ d / 512 < (k : Int) ∧ d % 512 < m (d / 512).toNat ∧ p = ln (d / 512).toNat + d % 512)) (ht : t = true ↔ (d = -1 ∨ (x (d / 512).toNat = d % 512 ∧ R (d / 512).toNat = true))) :
    (if 0 = p.toNat then b else 0) + cS (fun s => if R s = true then (if (ln s + x s).toNat = p.toNat then b else 0) else 0) k = (if t = true then b else 0) := by
  rcases hd with ⟨c1, c2⟩ | ⟨c1, c2, c3, c4⟩
  · have hz : cS (fun s => if R s = true then (if (ln s + x s).toNat = p.toNat then b else 0) else 0) k = 0 := cS_zero (fun s hs => by
      have a := h1 s (by omega)
      have a2 := hx s (by omega)
      show (if R s = true then (if (ln s + x s).toNat = p.toNat then b else 0) else 0) = 0
      rw [if_neg (show ¬ (ln s + x s).toNat = p.toNat by omega)]
      split <;> rfl)
    rw [hz, if_pos (show 0 = p.toNat by omega), if_pos (ht.mpr (Or.inl c1))]
    omega
  · obtain ⟨q, hq⟩ : ∃ q : Nat, (d / 512).toNat = q := ⟨_, rfl⟩
    rw [hq] at c3 c4 ht
    have q1 := h1 q (by omega)
    have xq := hx q (by omega)
    have md : 0 ≤ d % 512 := Int.emod_nonneg _ (by decide)
    have ho : cS (fun s => if R s = true then (if (ln s + x s).toNat = p.toNat then b else 0) else 0) k = (if R q = true then (if (ln q + x q).toNat = p.toNat then b else 0) else 0) := cS_one (f := fun s => if R s = true then (if (ln s + x s).toNat = p.toNat then b else 0) else 0) (q := q) (by omega) (fun s hs hne => by
      have a := h1 s (by omega)
      have a2 := hx s (by omega)
      have ne : ¬ (ln s + x s).toNat = p.toNat := by
        rcases Nat.lt_or_gt_of_ne hne with c | c
        · have := h2 s q c (by omega)
          omega
        · have := h2 q s c (by omega)
          omega
      show (if R s = true then (if (ln s + x s).toNat = p.toNat then b else 0) else 0) = 0
      rw [if_neg ne]
      split <;> rfl)
    rw [ho, if_neg (show ¬ 0 = p.toNat by omega)]
    by_cases e : x q = d % 512 ∧ R q = true
    · rw [if_pos e.2, if_pos (show (ln q + x q).toNat = p.toNat by rw [c4, e.1]), if_pos (ht.mpr (Or.inr e))]
      omega
    · have nt : ¬ t = true := fun c => by
        rcases ht.mp c with c' | c'
        · omega
        · exact e c'
      rw [if_neg nt]
      by_cases eR : R q = true
      · rw [if_pos eR, if_neg (show ¬ (ln q + x q).toNat = p.toNat from fun c => e ⟨by omega, eR⟩)]
        rfl
      · rw [if_neg eR]
        rfl
/-- what the lines get from the last set on is gathered at the line before the set -/
noncomputable def rq_G (n : Nat) (N : Int) (m ln p mv : Nat → Int) (G : Nat → Nat → Int) : Prop := ∀ i, i < n → (0 ≤ mv i ∧ mv i < m i) ∧ (∀ l : Nat, (l : Int) < N → G i l = G (i + 1) l + (if l = (p i).toNat then G (i + 1) (ln i + mv i).toNat else 0)) ∧ ∀ k : Int, 0 ≤ k → k < m i → G (i + 1) (ln i + k).toNat ≤ G (i + 1) (ln i + mv i).toNat ∧ (k < mv i → G (i + 1) (ln i + k).toNat < G (i + 1) (ln i + mv i).toNat)
theorem rq_step {n i : Nat} {N : Int} {m ln d p mv x : Nat → Int} {G : Nat → Nat → Int} {R : Nat → Bool} (hL : rq_L n N m ln d p) (hG : rq_G n N m ln p mv G) (hx : rb_pl n m x) (hR : rq_C n d x R) (hi : i < n) :
    rq_V (G i) ln x R i = rq_V (G (i + 1)) ln x R (i + 1) + (if R i = true then G (i + 1) (ln i + mv i).toNat - G (i + 1) (ln i + x i).toNat else 0) := by
  obtain ⟨l0, l1, l2, l3⟩ := hL
  obtain ⟨hv, hg, hb⟩ := hG i hi
  obtain ⟨b, eb⟩ : ∃ b, b = G (i + 1) (ln i + mv i).toNat := ⟨_, rfl⟩
  rw [← eb] at hg ⊢
  have cnt := rq_cnt (n := n) (k := i) (m := m) (ln := ln) (x := x) (R := R) (d := d i) (p := p i) (b := b) (t := R i) (fun s hs => (l1 s hs).1) l2 hx (by omega) (l3 i hi) (hR i hi)
  have e0 : G i 0 = G (i + 1) 0 + (if 0 = (p i).toNat then b else 0) := hg 0 (by omega)
  have e1 : cS (fun s => if R s = true then G i (ln s + x s).toNat else 0) i = cS (fun s => if R s = true then G (i + 1) (ln s + x s).toNat else 0) i + cS (fun s => if R s = true then (if (ln s + x s).toNat = (p i).toNat then b else 0) else 0) i := by
    rw [← cS_add]
    refine cS_congr (fun s hs => ?_)
    show (if R s = true then G i (ln s + x s).toNat else 0) = (if R s = true then G (i + 1) (ln s + x s).toNat else 0) + (if R s = true then (if (ln s + x s).toNat = (p i).toNat then b else 0) else 0)
    by_cases c : R s = true
    · rw [if_pos c, if_pos c, if_pos c]
      have a := l1 s (by omega)
      have a2 := hx s (by omega)
      exact hg _ (by omega)
    · rw [if_neg c, if_neg c, if_neg c]
      rfl
  unfold rq_V
  rw [e0, e1]
  simp only [cS]
  by_cases c : R i = true
  · rw [if_pos c] at cnt ⊢
    rw [if_pos c]
    omega
  · rw [if_neg c] at cnt ⊢
    rw [if_neg c]
    omega
theorem rq_tot {n : Nat} {N : Int} {m ln d p mv x : Nat → Int} {G : Nat → Nat → Int} {R : Nat → Bool} (hL : rq_L n N m ln d p) (hG : rq_G n N m ln p mv G) (hx : rb_pl n m x) (hR : rq_C n d x R) {j : Nat} (hj : j ≤ n) :
    G 0 0 = rq_V (G j) ln x R j + cS (fun i => if R i = true then G (i + 1) (ln i + mv i).toNat - G (i + 1) (ln i + x i).toNat else 0) j := by
  induction j with
  | zero => simp [rq_V, cS]
  | succ j ih =>
    have s := rq_step hL hG hx hR (i := j) (by omega)
    have t := ih (by omega)
    simp only [cS]
    omega
/-- the best moves from the last set on, the least where the plan doesn't lead, are the first of the best plans -/
theorem rq_best {n : Nat} {N : Int} {m ln d p mv k : Nat → Int} {G : Nat → Nat → Int} {R : Nat → Bool} {V : (Nat → Int) → Int} (hL : rq_L n N m ln d p) (hG : rq_G n N m ln p mv G) (hR : rq_C n d k R) (hk : ∀ s, s < n → k s = (if R s = true then mv s else 0)) (hV : ∀ x, rb_pl n m x → ∃ S : Nat → Bool, rq_C n d x S ∧ V x = rq_V (G n) ln x S n) : rb_B n m V k := by
  have hd := rq_L_d hL
  have pk : rb_pl n m k := fun s hs => by
    have a := (hG s hs).1
    have b := (hL.2.1 s hs).2.1
    rw [hk s hs]
    split
    · exact a
    · omega
  have nn : ∀ x : Nat → Int, rb_pl n m x → ∀ S : Nat → Bool, ∀ i, i < n → 0 ≤ (if S i = true then G (i + 1) (ln i + mv i).toNat - G (i + 1) (ln i + x i).toNat else 0) := fun x hx S i hi => by
    split
    · have a := hx i hi
      have b := ((hG i hi).2.2 (x i) a.1 a.2).1
      omega
    · exact Int.le_refl 0
  have vk : V k = G 0 0 := by
    obtain ⟨S, hS, eV⟩ := hV k pk
    have t := rq_tot hL hG pk hS (Nat.le_refl n)
    have z : cS (fun i => if S i = true then G (i + 1) (ln i + mv i).toNat - G (i + 1) (ln i + k i).toNat else 0) n = 0 := cS_zero (fun i hi => by
      show (if S i = true then G (i + 1) (ln i + mv i).toNat - G (i + 1) (ln i + k i).toNat else 0) = 0
      by_cases c : S i = true
      · have ag := rq_C_agree (k := i) hd hS hR (fun _ _ => rfl) i (Nat.le_refl i) hi
        rw [if_pos c, hk i hi, if_pos (by rw [← ag]; exact c)]
        omega
      · rw [if_neg c])
    omega
  refine ⟨pk, fun x hx => ?_⟩
  obtain ⟨S, hS, eV⟩ := hV x hx
  have t := rq_tot hL hG hx hS (Nat.le_refl n)
  have s0 := cS_nn (f := fun i => if S i = true then G (i + 1) (ln i + mv i).toNat - G (i + 1) (ln i + x i).toNat else 0) (n := n) (nn x hx S)
  refine ⟨by omega, fun lt => ?_⟩
  obtain ⟨s, hs, l1, l2⟩ := lt
  have ag := rq_C_agree (k := s) hd hS hR l2 s (Nat.le_refl s) hs
  have xs := hx s hs
  have ks := hk s hs
  by_cases c : R s = true
  · rw [if_pos c] at ks
    have b := ((hG s hs).2.2 (x s) xs.1 xs.2).2 (by omega)
    have le := cS_le (f := fun i => if S i = true then G (i + 1) (ln i + mv i).toNat - G (i + 1) (ln i + x i).toNat else 0) (n := n) (i := s) (nn x hx S) hs
    have es : (if S s = true then G (s + 1) (ln s + mv s).toNat - G (s + 1) (ln s + x s).toNat else 0) = G (s + 1) (ln s + mv s).toNat - G (s + 1) (ln s + x s).toNat := if_pos (by rw [ag]; exact c)
    have le : (if S s = true then G (s + 1) (ln s + mv s).toNat - G (s + 1) (ln s + x s).toNat else 0) ≤ cS (fun i => if S i = true then G (i + 1) (ln i + mv i).toNat - G (i + 1) (ln i + x i).toNat else 0) n := le
    rw [es] at le
    omega
  · rw [if_neg c] at ks
    omega
/-- a plan's value, end by end -/
theorem rq_ends {n E : Nat} {N : Int} {m ln d p x de le w : Nat → Int} {R t : Nat → Bool} (hL : rq_L n N m ln d p) (hx : rb_pl n m x) (hE : ∀ e, e < E → (de e = -1 ∧ le e = 0) ∨ (0 ≤ de e ∧ de e / 512 < (n : Int) ∧ de e % 512 < m (de e / 512).toNat ∧ le e = ln (de e / 512).toNat + de e % 512)) (ht : ∀ e, e < E → (t e = true ↔ (de e = -1 ∨ (x (de e / 512).toNat = de e % 512 ∧ R (de e / 512).toNat = true)))) :
    rq_V (fun l => cS (fun e => if l = (le e).toNat then w e else 0) E) ln x R n = cS (fun e => if t e = true then w e else 0) E := by
  have h1 : cS (fun e => if t e = true then w e else 0) E = cS (fun e => (if 0 = (le e).toNat then w e else 0) + cS (fun s => if R s = true then (if (ln s + x s).toNat = (le e).toNat then w e else 0) else 0) n) E := cS_congr (fun e he => (rq_cnt (n := n) (k := n) (m := m) (ln := ln) (x := x) (R := R) (d := de e) (p := le e) (b := w e) (t := t e) (fun s hs => (hL.2.1 s hs).1) hL.2.2.1 hx (Nat.le_refl n) (hE e he) (ht e he)).symm)
  have h2 : cS (fun e => (if 0 = (le e).toNat then w e else 0) + cS (fun s => if R s = true then (if (ln s + x s).toNat = (le e).toNat then w e else 0) else 0) n) E = cS (fun e => if 0 = (le e).toNat then w e else 0) E + cS (fun e => cS (fun s => if R s = true then (if (ln s + x s).toNat = (le e).toNat then w e else 0) else 0) n) E := cS_add (fun e => if 0 = (le e).toNat then w e else 0) (fun e => cS (fun s => if R s = true then (if (ln s + x s).toNat = (le e).toNat then w e else 0) else 0) n) E
  have h3 : cS (fun e => cS (fun s => if R s = true then (if (ln s + x s).toNat = (le e).toNat then w e else 0) else 0) n) E = cS (fun s => cS (fun e => if R s = true then (if (ln s + x s).toNat = (le e).toNat then w e else 0) else 0) E) n := cS_comm (fun e s => if R s = true then (if (ln s + x s).toNat = (le e).toNat then w e else 0) else 0) E n
  have h4 : cS (fun s => cS (fun e => if R s = true then (if (ln s + x s).toNat = (le e).toNat then w e else 0) else 0) E) n = cS (fun s => if R s = true then cS (fun e => if (ln s + x s).toNat = (le e).toNat then w e else 0) E else 0) n := cS_congr (fun s hs => by
    show cS (fun e => if R s = true then (if (ln s + x s).toNat = (le e).toNat then w e else 0) else 0) E = (if R s = true then cS (fun e => if (ln s + x s).toNat = (le e).toNat then w e else 0) E else 0)
    by_cases c : R s = true
    · rw [if_pos c]
      exact cS_congr (fun e _ => if_pos c)
    · rw [if_neg c]
      exact cS_zero (fun e _ => if_neg c))
  rw [h1, h2, h3, h4]
  rfl
