/-- sums, in two pieces -/
theorem du_split (f : Nat → Int) (a b : Nat) : cS f (a + b) = cS f a + cS (fun j => f (a + j)) b := by
  induction b with
  | zero => show cS f a = cS f a + 0; omega
  | succ b ih =>
    show cS f (a + b) + f (a + b) = cS f a + (cS (fun j => f (a + j)) b + f (a + b))
    rw [ih]
    omega
theorem du_le {f g : Nat → Int} {n : Nat} (h : ∀ i, i < n → f i ≤ g i) : cS f n ≤ cS g n := by
  induction n with
  | zero => exact Int.le_refl _
  | succ n ih =>
    have h1 := ih (fun i hi => h i (by omega))
    have h2 := h n (by omega)
    show cS f n + f n ≤ cS g n + g n
    omega
/-- the first of the greatest -/
theorem du_arg (f : Nat → Int) : ∀ M : Nat, 0 < M → ∃ v, v < M ∧ ∀ j, j < M → f j ≤ f v ∧ (j < v → f j < f v) := by
  intro M
  induction M with
  | zero => intro h; omega
  | succ M ih =>
    intro _
    by_cases c : M = 0
    · exact ⟨0, by omega, fun j hj => by
        have : j = 0 := by omega
        rw [this]
        exact ⟨Int.le_refl _, fun q => by omega⟩⟩
    · obtain ⟨v, v1, v2⟩ := ih (by omega)
      by_cases d : f v < f M
      · refine ⟨M, by omega, fun j hj => ?_⟩
        by_cases e : j = M
        · rw [e]
          exact ⟨Int.le_refl _, fun q => by omega⟩
        · have := (v2 j (by omega)).1
          exact ⟨by omega, fun _ => by omega⟩
      · refine ⟨v, by omega, fun j hj => ?_⟩
        by_cases e : j = M
        · rw [e]
          exact ⟨by omega, fun q => by omega⟩
        · exact v2 j (by omega)
/-- shares at the lines of a side: D in all, at each set as much as ahead of it -/
noncomputable def du_R (n : Nat) (m p : Nat → Int) (D : Int) (X : Nat → Int) : Prop := X 0 = D ∧ (∀ l : Nat, (l : Int) < 1 + cS m n → 0 ≤ X l) ∧ ∀ s, s < n → cS (fun j => X ((1 + cS m s).toNat + j)) (m s).toNat = X (p s).toNat
theorem du_pos {n : Nat} {m : Nat → Int} (h : ∀ s, s < n → 1 ≤ m s) : ∀ s, s ≤ n → 0 ≤ cS m s := by
  intro s
  induction s with
  | zero => intro _; exact Int.le_refl _
  | succ s ih =>
    intro hs
    have := ih (by omega)
    have := h s (by omega)
    show 0 ≤ cS m s + m s
    omega
/-- the best moves, from the last set on -/
theorem du_G {n : Nat} {N : Int} {m ln p : Nat → Int} (g : Nat → Int) (hm : ∀ s, s < n → 1 ≤ m s) : ∀ t, t ≤ n → ∃ (mv : Nat → Int) (G : Nat → Nat → Int), cg_K n (n - t) N 1 m ln p mv G ∧ G n = g := by
  intro t
  induction t with
  | zero => intro _; exact ⟨fun _ => 0, fun _ => g, fun i a b => by omega, rfl⟩
  | succ t ih =>
    intro ht
    obtain ⟨mv, G, hK, hG⟩ := ih (by omega)
    obtain ⟨k, hk⟩ : ∃ k, k = n - (t + 1) := ⟨_, rfl⟩
    have ek : n - t = k + 1 := by omega
    rw [ek] at hK
    rw [← hk]
    obtain ⟨v, v1, v2⟩ := du_arg (fun j => G (k + 1) (ln k + (j : Int)).toNat) (m k).toNat (by have := hm k (by omega); omega)
    refine ⟨lp_U mv k (v : Int), lp_U G k (fun l => G (k + 1) l + (if l = (p k).toNat then G (k + 1) (ln k + (v : Int)).toNat else 0)), cg_K_up hK ⟨by omega, by omega⟩ (fun l _ => rfl) (fun k' a b => ?_), ?_⟩
    · obtain ⟨j, rfl⟩ := Int.eq_ofNat_of_zero_le a
      have q := v2 j (by omega)
      rw [Int.one_mul, Int.one_mul]
      exact ⟨q.1, fun c => q.2 (by omega)⟩
    · rw [lp_U_other (by omega)]
      exact hG
/-- no shares get more than the best plan -/
theorem du_max {n : Nat} {m p d : Nat → Int} (hL : rq_L n (1 + cS m n) m (fun i => 1 + cS m i) d p) (g X : Nat → Int) {D : Int} (hX : du_R n m p D X) : ∃ k, rb_pl n m k ∧ cS (fun l => X l * g l) (1 + cS m n).toNat ≤ D * rq_V g (fun i => 1 + cS m i) k (rq_R d k n) n := by
  obtain ⟨x0, xp, xs⟩ := hX
  have hm : ∀ s, s < n → 1 ≤ m s := fun s hs => (hL.2.1 s hs).2.1
  have pos := du_pos hm
  obtain ⟨mv, G, hK, hG⟩ := du_G (n := n) (N := 1 + cS m n) (m := m) (ln := fun i => 1 + cS m i) (p := p) g hm n (Nat.le_refl n)
  rw [Nat.sub_self] at hK
  have hGG : rq_G n (1 + cS m n) m (fun i => 1 + cS m i) p mv G := fun i hi => by
    obtain ⟨a, b, c⟩ := hK i (Nat.zero_le i) hi
    refine ⟨a, b, fun k' u v => ?_⟩
    have q := c k' u v
    rw [Int.one_mul, Int.one_mul] at q
    exact q
  have hd := rq_L_d hL
  -- the plan
  obtain ⟨k, hk⟩ : ∃ k : Nat → Int, k = fun s => if rq_R d mv n s = true then mv s else 0 := ⟨_, rfl⟩
  have hkk : ∀ s, s < n → k s = (if rq_R d mv n s = true then mv s else 0) := fun s _ => by rw [hk]
  have hC := rq_R_C (n := n) (d := d) (x := mv) hd
  have hR : rq_C n d k (rq_R d mv n) := fun s hs => by
    rw [hC s hs]
    constructor
    · intro q
      rcases q with q | ⟨q1, q2⟩
      · exact Or.inl q
      · exact Or.inr ⟨by rw [hk]; show (if rq_R d mv n (d s / 512).toNat = true then mv (d s / 512).toNat else 0) = _; rw [if_pos q2]; exact q1, q2⟩
    · intro q
      rcases q with q | ⟨q1, q2⟩
      · exact Or.inl q
      · refine Or.inr ⟨?_, q2⟩
        rw [hk] at q1
        have q1 : (if rq_R d mv n (d s / 512).toNat = true then mv (d s / 512).toNat else 0) = d s % 512 := q1
        rw [if_pos q2] at q1
        exact q1
  have hV : ∀ x, rb_pl n m x → ∃ S : Nat → Bool, rq_C n d x S ∧ (fun x => rq_V g (fun i => 1 + cS m i) x (rq_R d x n) n) x = rq_V (G n) (fun i => 1 + cS m i) x S n := fun x _ => ⟨rq_R d x n, rq_R_C hd, by rw [hG]⟩
  have vk := rq_best0 hL hGG hR hkk hV
  have pk := (rq_best hL hGG hR hkk hV).1
  refine ⟨k, pk, ?_⟩
  have vk : rq_V g (fun i => 1 + cS m i) k (rq_R d k n) n = G 0 0 := vk
  rw [vk]
  -- set by set
  have step : ∀ i, i < n → cS (fun l => X l * G (i + 1) l) (1 + cS m (i + 1)).toNat ≤ cS (fun l => X l * G i l) (1 + cS m i).toNat := by
    intro i hi
    obtain ⟨mv1, b, c⟩ := hGG i hi
    have pi0 := pos i (by omega)
    have mi := hm i hi
    have pin := pos n (Nat.le_refl n)
    have e1 : (1 + cS m (i + 1)).toNat = (1 + cS m i).toNat + (m i).toNat := by
      show (1 + (cS m i + m i)).toNat = _
      omega
    have top : 1 + cS m i + m i ≤ 1 + cS m n := (hL.2.1 i hi).2.2
    obtain ⟨Gm, hGm⟩ : ∃ Gm, Gm = G (i + 1) (1 + cS m i + mv i).toNat := ⟨_, rfl⟩
    have pl : 0 ≤ p i ∧ p i < 1 + cS m i := by
      rcases hL.2.2.2 i hi with ⟨q1, q2⟩ | ⟨q1, q2, q3, q4⟩
      · omega
      · have q5 : 1 + cS m (d i / 512).toNat + m (d i / 512).toNat ≤ 1 + cS m i := hL.2.2.1 (d i / 512).toNat i (by omega) hi
        have q6 : 1 ≤ 1 + cS m (d i / 512).toNat := (hL.2.1 (d i / 512).toNat (by omega)).1
        have q4 : p i = 1 + cS m (d i / 512).toNat + d i % 512 := q4
        have m0 := Int.emod_nonneg (d i) (show (512 : Int) ≠ 0 by decide)
        omega
    have low : cS (fun l => X l * G i l) (1 + cS m i).toNat = cS (fun l => X l * G (i + 1) l) (1 + cS m i).toNat + X (p i).toNat * Gm := by
      have e2 : cS (fun l => X l * G i l) (1 + cS m i).toNat = cS (fun l => X l * G (i + 1) l + (if l = (p i).toNat then X l * Gm else 0)) (1 + cS m i).toNat := cS_congr (fun l hl => by
        show X l * G i l = X l * G (i + 1) l + (if l = (p i).toNat then X l * Gm else 0)
        rw [b l (by omega), Int.mul_add, hGm]
        by_cases e : l = (p i).toNat
        · rw [if_pos e, if_pos e]
        · rw [if_neg e, if_neg e, Int.mul_zero])
      rw [e2, cS_add]
      congr 1
      rw [cS_one (f := fun l => if l = (p i).toNat then X l * Gm else 0) (q := (p i).toNat) (by omega) (fun j _ hne => if_neg hne)]
      exact if_pos rfl
    have high : cS (fun j => X ((1 + cS m i).toNat + j) * G (i + 1) ((1 + cS m i).toNat + j)) (m i).toNat ≤ X (p i).toNat * Gm := by
      rw [← xs i hi, ← cS_mulr]
      refine du_le (fun j hj => ?_)
      show X ((1 + cS m i).toNat + j) * G (i + 1) ((1 + cS m i).toNat + j) ≤ X ((1 + cS m i).toNat + j) * Gm
      have q := (c (j : Int) (by omega) (by omega)).1
      have ej : (1 + cS m i + (j : Int)).toNat = (1 + cS m i).toNat + j := by omega
      rw [ej, ← hGm] at q
      exact Int.mul_le_mul_of_nonneg_left q (xp _ (by omega))
    rw [e1, du_split, low]
    omega
  have all : ∀ t, t ≤ n → cS (fun l => X l * G n l) (1 + cS m n).toNat ≤ cS (fun l => X l * G (n - t) l) (1 + cS m (n - t)).toNat := by
    intro t
    induction t with
    | zero => intro _; rw [Nat.sub_zero]; exact Int.le_refl _
    | succ t ih =>
      intro ht
      have q := step (n - (t + 1)) (by omega)
      rw [show n - (t + 1) + 1 = n - t by omega] at q
      exact Int.le_trans (ih (by omega)) q
  have fin := all n (Nat.le_refl n)
  rw [Nat.sub_self, hG] at fin
  have one : cS (fun l => X l * G 0 l) (1 + cS m 0).toNat = D * G 0 0 := by
    show (0 : Int) + X 0 * G 0 0 = D * G 0 0
    rw [x0]
    omega
  rw [one] at fin
  exact fin
theorem du_V_neg (g ln x : Nat → Int) (R : Nat → Bool) (n : Nat) : rq_V (fun l => - g l) ln x R n = - rq_V g ln x R n := by
  unfold rq_V
  have e : cS (fun s => if R s = true then - g (ln s + x s).toNat else 0) n = - cS (fun s => if R s = true then g (ln s + x s).toNat else 0) n := by
    induction n with
    | zero => rfl
    | succ n ih =>
      show cS _ n + (if R n = true then - g (ln n + x n).toNat else 0) = - (cS _ n + (if R n = true then g (ln n + x n).toNat else 0))
      rw [ih]
      split <;> omega
  rw [e]
  show - g 0 + - cS (fun s => if R s = true then g (ln s + x s).toNat else 0) n = - (g 0 + cS (fun s => if R s = true then g (ln s + x s).toNat else 0) n)
  omega
theorem du_neg (f : Nat → Int) (n : Nat) : cS (fun i => - f i) n = - cS f n := by
  induction n with
  | zero => rfl
  | succ n ih =>
    show cS (fun i => - f i) n + - f n = - (cS f n + f n)
    rw [ih]
    omega
/-- .. nor less than the worst -/
theorem du_min {n : Nat} {m p d : Nat → Int} (hL : rq_L n (1 + cS m n) m (fun i => 1 + cS m i) d p) (g X : Nat → Int) {D : Int} (hX : du_R n m p D X) : ∃ k, rb_pl n m k ∧ D * rq_V g (fun i => 1 + cS m i) k (rq_R d k n) n ≤ cS (fun l => X l * g l) (1 + cS m n).toNat := by
  obtain ⟨k, k1, k2⟩ := du_max hL (fun l => - g l) X hX
  refine ⟨k, k1, ?_⟩
  rw [du_V_neg, Int.mul_neg] at k2
  have e : cS (fun l => X l * - g l) (1 + cS m n).toNat = - cS (fun l => X l * g l) (1 + cS m n).toNat := by
    rw [← du_neg]
    exact cS_congr (fun l _ => Int.mul_neg _ _)
  rw [e] at k2
  omega
/-- sums over both players' lines, either way -/
theorem du_swap (w : Nat → Nat → Int) (X Y : Nat → Int) (M N : Nat) : cS (fun i => X i * cS (fun l => w i l * Y l) N) M = cS (fun l => Y l * cS (fun i => w i l * X i) M) N := by
  have h1 : cS (fun i => X i * cS (fun l => w i l * Y l) N) M = cS (fun i => cS (fun l => X i * (w i l * Y l)) N) M := cS_congr (fun i _ => by
    rw [Int.mul_comm, ← cS_mulr]
    exact cS_congr (fun l _ => Int.mul_comm _ _))
  have h2 : cS (fun l => Y l * cS (fun i => w i l * X i) M) N = cS (fun l => cS (fun i => X i * (w i l * Y l)) M) N := cS_congr (fun l _ => by
    rw [Int.mul_comm, ← cS_mulr]
    exact cS_congr (fun i _ => by rw [Int.mul_comm (w i l) (X i), Int.mul_assoc]))
  rw [h1, h2]
  exact cS_comm (fun i l => X i * (w i l * Y l)) M N
/-- THE VALUE: what shares at lines guarantee on either side, and what mixes of plans do, is the same -/
theorem du_value {nA nB : Nat} {mA pA dA mB pB dB : Nat → Int} {w : Nat → Nat → Int} {X' Y' Xp Yq : Nat → Int} {D Dp Dq top tm sm : Int} (LA : rq_L nA (1 + cS mA nA) mA (fun i => 1 + cS mA i) dA pA) (LB : rq_L nB (1 + cS mB nB) mB (fun i => 1 + cS mB i) dB pB)
    (hX : du_R nA mA pA D X') (hY : du_R nB mB pB D Y') (hp : du_R nA mA pA Dp Xp) (hq : du_R nB mB pB Dq Yq) (p0 : 0 < Dp) (q0 : 0 < Dq) (d0 : 0 < D)
    (c1 : ∀ Y DY, du_R nB mB pB DY Y → DY * top ≤ cS (fun l => Y l * cS (fun i => w i l * X' i) (1 + cS mA nA).toNat) (1 + cS mB nB).toNat)
    (c2 : ∀ X DX, du_R nA mA pA DX X → cS (fun i => X i * cS (fun l => w i l * Y' l) (1 + cS mB nB).toNat) (1 + cS mA nA).toNat ≤ DX * top)
    (m1 : ∀ k, rb_pl nB mB k → tm ≤ rq_V (fun l => cS (fun i => w i l * Xp i) (1 + cS mA nA).toNat) (fun i => 1 + cS mB i) k (rq_R dB k nB) nB)
    (m2 : ∀ k, rb_pl nA mA k → rq_V (fun i => cS (fun l => w i l * Yq l) (1 + cS mB nB).toNat) (fun i => 1 + cS mA i) k (rq_R dA k nA) nA ≤ sm)
    (e : tm * Dq = sm * Dp) : top * Dp = tm * D := by
  have h1 := c2 Xp Dp hp
  rw [du_swap] at h1
  obtain ⟨k, k1, k2⟩ := du_min LB (fun l => cS (fun i => w i l * Xp i) (1 + cS mA nA).toNat) Y' hY
  have k3 := m1 k k1
  have k4 : D * tm ≤ D * rq_V (fun l => cS (fun i => w i l * Xp i) (1 + cS mA nA).toNat) (fun i => 1 + cS mB i) k (rq_R dB k nB) nB := Int.mul_le_mul_of_nonneg_left k3 (by omega)
  have a1 : D * tm ≤ Dp * top := Int.le_trans k4 (Int.le_trans k2 h1)
  have h2 := c1 Yq Dq hq
  rw [← du_swap] at h2
  obtain ⟨j, j1, j2⟩ := du_max LA (fun i => cS (fun l => w i l * Yq l) (1 + cS mB nB).toNat) X' hX
  have j3 := m2 j j1
  have j4 : D * rq_V (fun i => cS (fun l => w i l * Yq l) (1 + cS mB nB).toNat) (fun i => 1 + cS mA i) j (rq_R dA j nA) nA ≤ D * sm := Int.mul_le_mul_of_nonneg_left j3 (by omega)
  have a2 : Dq * top ≤ D * sm := Int.le_trans h2 (Int.le_trans j2 j4)
  have a3 : Dp * (Dq * top) ≤ Dp * (D * sm) := Int.mul_le_mul_of_nonneg_left a2 (by omega)
  have e1 : Dp * (D * sm) = Dq * (D * tm) := by rw [Int.mul_left_comm, Int.mul_comm Dp sm, ← e, Int.mul_comm tm Dq, Int.mul_left_comm]
  have e2 : Dp * (Dq * top) = Dq * (Dp * top) := Int.mul_left_comm _ _ _
  rw [e1, e2] at a3
  have a4 : Dp * top ≤ D * tm := Int.le_of_mul_le_mul_left a3 q0
  rw [Int.mul_comm top, Int.mul_comm tm]
  omega
