/-- lines: line 0, then set by set -/
theorem du_lines {m : Nat → Int} (F : Nat → Int) : ∀ n : Nat, (∀ s, s < n → 1 ≤ m s) → cS F (1 + cS m n).toNat = F 0 + cS (fun s => cS (fun j => F ((1 + cS m s).toNat + j)) (m s).toNat) n := by
  intro n
  induction n with
  | zero => intro _; show (0 : Int) + F 0 = F 0 + 0; omega
  | succ n ih =>
    intro h
    have p0 := du_pos (n := n) (fun s hs => h s (by omega)) n (Nat.le_refl n)
    have hm := h n (by omega)
    have e1 : (1 + cS m (n + 1)).toNat = (1 + cS m n).toNat + (m n).toNat := by
      show (1 + (cS m n + m n)).toNat = _
      omega
    rw [e1, du_split, ih (fun s hs => h s (by omega))]
    show F 0 + cS (fun s => cS (fun j => F ((1 + cS m s).toNat + j)) (m s).toNat) n + cS (fun j => F ((1 + cS m n).toNat + j)) (m n).toNat = F 0 + (cS (fun s => cS (fun j => F ((1 + cS m s).toNat + j)) (m s).toNat) n + cS (fun j => F ((1 + cS m n).toNat + j)) (m n).toNat)
    omega
theorem du_mull (f : Nat → Int) (c : Int) (n : Nat) : cS (fun i => c * f i) n = c * cS f n := by
  rw [Int.mul_comm, ← cS_mulr]
  exact cS_congr (fun i _ => Int.mul_comm _ _)
/-- what hangs below the lines, line by line -/
theorem du_child {n N : Nat} {p u Y : Nat → Int} (hp : ∀ c, c < n → (p c).toNat < N) : cS (fun l => Y l * cS (fun c => if (p c).toNat = l then u c else 0) n) N = cS (fun c => Y (p c).toNat * u c) n := by
  have h1 : cS (fun l => Y l * cS (fun c => if (p c).toNat = l then u c else 0) n) N = cS (fun l => cS (fun c => Y l * (if (p c).toNat = l then u c else 0)) n) N := cS_congr (fun l _ => (du_mull _ _ _).symm)
  rw [h1, cS_comm (fun l c => Y l * (if (p c).toNat = l then u c else 0)) N n]
  refine cS_congr (fun c hc => ?_)
  show cS (fun l => Y l * (if (p c).toNat = l then u c else 0)) N = Y (p c).toNat * u c
  rw [cS_one (f := fun l => Y l * (if (p c).toNat = l then u c else 0)) (q := (p c).toNat) (hp c hc) (fun j _ hne => by
    show Y j * (if (p c).toNat = j then u c else 0) = 0
    rw [if_neg (fun e => hne e.symm), Int.mul_zero])]
  show Y (p c).toNat * (if (p c).toNat = (p c).toNat then u c else 0) = _
  rw [if_pos rfl]
/-- a set's parent line stands ahead of it -/
theorem du_par {n : Nat} {m p d : Nat → Int} (hL : rq_L n (1 + cS m n) m (fun i => 1 + cS m i) d p) {i : Nat} (hi : i < n) : 0 ≤ p i ∧ p i < 1 + cS m i := by
  rcases hL.2.2.2 i hi with ⟨q1, q2⟩ | ⟨q1, q2, q3, q4⟩
  · have := du_pos (n := n) (fun s hs => (hL.2.1 s hs).2.1) i (by omega)
    omega
  · have q5 : 1 + cS m (d i / 512).toNat + m (d i / 512).toNat ≤ 1 + cS m i := hL.2.2.1 (d i / 512).toNat i (by omega) hi
    have q6 : 1 ≤ 1 + cS m (d i / 512).toNat := (hL.2.1 (d i / 512).toNat (by omega)).1
    have q4 : p i = 1 + cS m (d i / 512).toNat + d i % 512 := q4
    have m0 := Int.emod_nonneg (d i) (show (512 : Int) ≠ 0 by decide)
    omega
/-- no line has more than all -/
theorem du_cap {n : Nat} {m p d : Nat → Int} (hL : rq_L n (1 + cS m n) m (fun i => 1 + cS m i) d p) {X : Nat → Int} {D : Int} (hX : du_R n m p D X) : ∀ s, s ≤ n → ∀ l : Nat, (l : Int) < 1 + cS m s → X l ≤ D := by
  obtain ⟨x0, xp, xs⟩ := hX
  have hm : ∀ s, s < n → 1 ≤ m s := fun s hs => (hL.2.1 s hs).2.1
  intro s
  induction s with
  | zero =>
    intro _ l hl
    have : l = 0 := by
      have hl : (l : Int) < 1 + 0 := hl
      omega
    rw [this, x0]
    exact Int.le_refl _
  | succ s ih =>
    intro hs l hl
    by_cases c : (l : Int) < 1 + cS m s
    · exact ih (by omega) l c
    · have hl : (l : Int) < 1 + (cS m s + m s) := hl
      have ps := du_pos hm s (by omega)
      have pp := du_par hL (show s < n by omega)
      have top : 1 + cS m s + m s ≤ 1 + cS m n := (hL.2.1 s (by omega)).2.2
      have e := xs s (by omega)
      have q := ih (by omega) (p s).toNat (by omega)
      have one := cS_le (f := fun j => X ((1 + cS m s).toNat + j)) (n := (m s).toNat) (i := l - (1 + cS m s).toNat) (fun j hj => xp _ (by omega)) (by omega)
      have one : X ((1 + cS m s).toNat + (l - (1 + cS m s).toNat)) ≤ cS (fun j => X ((1 + cS m s).toNat + j)) (m s).toNat := one
      rw [show (1 + cS m s).toNat + (l - (1 + cS m s).toNat) = l by omega, e] at one
      omega
/-- shares that are wanting are filled up -/
theorem du_fill {n : Nat} {m p d : Nat → Int} (hL : rq_L n (1 + cS m n) m (fun i => 1 + cS m i) d p) {x t : Nat → Int} (tp : ∀ s, s < n → 0 ≤ t s) (xs : ∀ s, s < n → cS (fun j => x ((1 + cS m s).toNat + j)) (m s).toNat + t s = x (p s).toNat) : ∀ k, k ≤ n → ∃ X : Nat → Int, X 0 = x 0 ∧ (∀ l : Nat, 1 + cS m k ≤ (l : Int) → X l = x l) ∧ (∀ l : Nat, x l ≤ X l ∧ X l ≤ x l + cS t k) ∧ ∀ s, s < k → cS (fun j => X ((1 + cS m s).toNat + j)) (m s).toNat = X (p s).toNat := by
  have hm : ∀ s, s < n → 1 ≤ m s := fun s hs => (hL.2.1 s hs).2.1
  have pos := du_pos hm
  intro k
  induction k with
  | zero => intro _; exact ⟨x, rfl, fun _ _ => rfl, fun l => ⟨Int.le_refl _, by show x l ≤ x l + 0; omega⟩, fun s hs => by omega⟩
  | succ k ih =>
    intro hk
    obtain ⟨X, a0, a1, a2, a3⟩ := ih (by omega)
    have pk := du_par hL (show k < n by omega)
    have ck := pos k (by omega)
    have mk := hm k (by omega)
    have tk := tp k (by omega)
    have xk := xs k (by omega)
    obtain ⟨q, hq⟩ : ∃ q : Nat, q = (1 + cS m k).toNat := ⟨_, rfl⟩
    obtain ⟨e, he⟩ : ∃ e, e = X (p k).toNat - x (p k).toNat + t k := ⟨_, rfl⟩
    have b2 := a2 (p k).toNat
    refine ⟨lp_U X q (x q + e), ?_, fun l hl => ?_, fun l => ?_, fun s hs => ?_⟩
    · rw [lp_U_other (by omega)]
      exact a0
    · have hl : 1 + (cS m k + m k) ≤ (l : Int) := hl
      rw [lp_U_other (by omega)]
      exact a1 l (by omega)
    · show x l ≤ lp_U X q (x q + e) l ∧ lp_U X q (x q + e) l ≤ x l + (cS t k + t k)
      by_cases c : l = q
      · rw [c, lp_U_same]
        omega
      · rw [lp_U_other c]
        have := a2 l
        omega
    · by_cases c : s = k
      · rw [c, ← hq]
        have eX : ∀ j, j < (m k).toNat → (fun j => lp_U X q (x q + e) (q + j)) j = (fun j => x (q + j) + (if j = 0 then e else 0)) j := fun j hj => by
          show lp_U X q (x q + e) (q + j) = x (q + j) + (if j = 0 then e else 0)
          by_cases c0 : j = 0
          · rw [c0, Nat.add_zero, lp_U_same, if_pos rfl]
          · rw [lp_U_other (by omega), if_neg c0, a1 (q + j) (by omega)]
            omega
        rw [cS_congr eX, cS_add, cS_one (f := fun j => if j = 0 then e else 0) (q := 0) (by omega) (fun j _ hne => if_neg hne), if_pos rfl, lp_U_other (by omega)]
        rw [← hq] at xk
        omega
      · have hs : s < k := by omega
        have ps := du_par hL (show s < n by omega)
        have cs1 : 1 + cS m s + m s ≤ 1 + cS m k := hL.2.2.1 s k hs (by omega)
        have cs0 := pos s (by omega)
        have ms := hm s (by omega)
        have eX : ∀ j, j < (m s).toNat → (fun j => lp_U X q (x q + e) ((1 + cS m s).toNat + j)) j = (fun j => X ((1 + cS m s).toNat + j)) j := fun j hj => by
          show lp_U X q (x q + e) ((1 + cS m s).toNat + j) = X ((1 + cS m s).toNat + j)
          rw [lp_U_other (by omega)]
        rw [cS_congr eX, lp_U_other (by omega)]
        exact a3 s hs
/-- a change of shares that is small changes little -/
theorem du_small {M N : Nat} {w : Nat → Nat → Int} {Y δ : Nat → Int} {DY T : Int} (y0 : ∀ l, l < N → 0 ≤ Y l ∧ Y l ≤ DY) (hδ : ∀ i, i < M → 0 ≤ δ i ∧ δ i ≤ T) : - (DY * T * cS (fun i => cS (fun l => ((w i l).natAbs : Int)) N) M) ≤ cS (fun l => Y l * cS (fun i => w i l * δ i) M) N ∧ cS (fun l => Y l * cS (fun i => w i l * δ i) M) N ≤ DY * T * cS (fun i => cS (fun l => ((w i l).natAbs : Int)) N) M := by
  rw [← du_swap w δ Y M N]
  have cell : ∀ i l, i < M → l < N → - (DY * T * ((w i l).natAbs : Int)) ≤ δ i * (w i l * Y l) ∧ δ i * (w i l * Y l) ≤ DY * T * ((w i l).natAbs : Int) := fun i l hi hl => by
    obtain ⟨a1, a2⟩ := y0 l hl
    obtain ⟨b1, b2⟩ := hδ i hi
    have k1 : 0 ≤ δ i * Y l := Int.mul_nonneg b1 a1
    have k2 : δ i * Y l ≤ T * DY := Int.mul_le_mul b2 a2 a1 (by omega)
    have k3 : (δ i * Y l) * ((w i l).natAbs : Int) ≤ (T * DY) * ((w i l).natAbs : Int) := Int.mul_le_mul_of_nonneg_right k2 (by omega)
    have k4 : 0 ≤ (δ i * Y l) * ((w i l).natAbs : Int) := Int.mul_nonneg k1 (by omega)
    have e1 : δ i * (w i l * Y l) = (δ i * Y l) * w i l := by rw [Int.mul_comm (w i l), Int.mul_assoc]
    rw [e1, Int.mul_comm DY T]
    rcases Int.natAbs_eq (w i l) with q | q
    · rw [← q] at k3 k4
      rw [← q]
      omega
    · have e2 : (δ i * Y l) * w i l = - ((δ i * Y l) * ((w i l).natAbs : Int)) := by rw [← Int.mul_neg, ← q]
      omega
  have tot : ∀ f : Nat → Nat → Int, cS (fun i => δ i * cS (fun l => w i l * Y l) N) M = cS (fun i => cS (fun l => δ i * (w i l * Y l)) N) M := fun _ => cS_congr (fun i _ => (du_mull _ _ _).symm)
  rw [tot (fun _ _ => 0), ← du_mull]
  constructor
  · rw [← du_neg]
    refine du_le (fun i hi => ?_)
    show - (DY * T * cS (fun l => ((w i l).natAbs : Int)) N) ≤ cS (fun l => δ i * (w i l * Y l)) N
    rw [← du_mull, ← du_neg]
    exact du_le (fun l hl => (cell i l hi hl).1)
  · refine du_le (fun i hi => ?_)
    show cS (fun l => δ i * (w i l * Y l)) N ≤ DY * T * cS (fun l => ((w i l).natAbs : Int)) N
    rw [← du_mull]
    exact du_le (fun l hl => (cell i l hi hl).2)
/-- A's side of the class's table: its lines guarantee what it says -/
theorem du_c1 {nA nB : Nat} {mA pA dA mB pB dB : Nat → Int} {w : Nat → Nat → Int} {x u t : Nat → Int} {D U top : Int} (LA : rq_L nA (1 + cS mA nA) mA (fun i => 1 + cS mA i) dA pA) (LB : rq_L nB (1 + cS mB nB) mB (fun i => 1 + cS mB i) dB pB)
    (x0 : x 0 = D) (xp : ∀ l : Nat, (l : Int) < 1 + cS mA nA → 0 ≤ x l) (tp : ∀ s, s < nA → 0 ≤ t s) (xs : ∀ s, s < nA → cS (fun j => x ((1 + cS mA s).toNat + j)) (mA s).toNat + t s = x (pA s).toNat)
    (ub : ∀ s, s < nB → ∀ j : Nat, (j : Int) < mB s → u s ≤ cS (fun c => if (pB c).toNat = (1 + cS mB s).toNat + j then u c else 0) nB + cS (fun i => w i ((1 + cS mB s).toNat + j) * x i) (1 + cS mA nA).toNat)
    (hU : cS (fun i => cS (fun l => ((w i l).natAbs : Int)) (1 + cS mB nB).toNat) (1 + cS mA nA).toNat ≤ U)
    (ht : top = cS (fun i => w i 0 * x i) (1 + cS mA nA).toNat + cS (fun c => if (pB c).toNat = 0 then u c else 0) nB - U * cS t nA) :
    ∃ X', du_R nA mA pA D X' ∧ ∀ Y DY, du_R nB mB pB DY Y → DY * top ≤ cS (fun l => Y l * cS (fun i => w i l * X' i) (1 + cS mA nA).toNat) (1 + cS mB nB).toNat := by
  obtain ⟨X, a0, a1, a2, a3⟩ := du_fill LA tp xs nA (Nat.le_refl nA)
  refine ⟨X, ⟨a0.trans x0, fun l hl => Int.le_trans (xp l hl) (a2 l).1, a3⟩, fun Y DY hY => ?_⟩
  have cap := du_cap LB hY nB (Nat.le_refl nB)
  obtain ⟨y0, yp, ys⟩ := id hY
  have hmB : ∀ s, s < nB → 1 ≤ mB s := fun s hs => (LB.2.1 s hs).2.1
  have posB := du_pos hmB
  have pnB := posB nB (Nat.le_refl nB)
  obtain ⟨NA, hNA⟩ : ∃ NA : Nat, NA = (1 + cS mA nA).toNat := ⟨_, rfl⟩
  obtain ⟨NB, hNB⟩ : ∃ NB : Nat, NB = (1 + cS mB nB).toNat := ⟨_, rfl⟩
  obtain ⟨wx, hwx⟩ : ∃ wx : Nat → Int, wx = fun l => cS (fun i => w i l * x i) NA := ⟨_, rfl⟩
  obtain ⟨ch, hch⟩ : ∃ ch : Nat → Int, ch = fun l => cS (fun c => if (pB c).toNat = l then u c else 0) nB := ⟨_, rfl⟩
  rw [← hNA, ← hNB]
  rw [← hNA] at ht ub hU
  rw [← hNB] at hU
  have ub' : ∀ s, s < nB → ∀ j : Nat, (j : Int) < mB s → u s ≤ ch ((1 + cS mB s).toNat + j) + wx ((1 + cS mB s).toNat + j) := fun s hs j hj => by rw [hch, hwx]; exact ub s hs j hj
  have ht' : top = wx 0 + ch 0 - U * cS t nA := by rw [hch, hwx]; exact ht
  have lines := fun F => du_lines (m := mB) F nB hmB
  rw [← hNB] at lines
  -- the sets of B
  have sets : cS (fun s => Y (pB s).toNat * u s) nB ≤ cS (fun s => cS (fun j => (fun l => Y l * ch l + Y l * wx l) ((1 + cS mB s).toNat + j)) (mB s).toNat) nB := du_le (fun s hs => by
    show Y (pB s).toNat * u s ≤ cS (fun j => (fun l => Y l * ch l + Y l * wx l) ((1 + cS mB s).toNat + j)) (mB s).toNat
    rw [← ys s hs, ← cS_mulr]
    refine du_le (fun j hj => ?_)
    show Y ((1 + cS mB s).toNat + j) * u s ≤ Y ((1 + cS mB s).toNat + j) * ch ((1 + cS mB s).toNat + j) + Y ((1 + cS mB s).toNat + j) * wx ((1 + cS mB s).toNat + j)
    rw [← Int.mul_add]
    have top9 : 1 + cS mB s + mB s ≤ 1 + cS mB nB := (LB.2.1 s hs).2.2
    have ps := posB s (by omega)
    exact Int.mul_le_mul_of_nonneg_left (ub' s hs j (by omega)) (yp _ (by omega)))
  have tot := lines (fun l => Y l * ch l + Y l * wx l)
  rw [cS_add] at tot
  have chs : cS (fun l => Y l * ch l) NB = cS (fun c => Y (pB c).toNat * u c) nB := by
    rw [hch]
    exact du_child (fun c hc => by
      have q := du_par LB hc
      have top9 : 1 + cS mB c + mB c ≤ 1 + cS mB nB := (LB.2.1 c hc).2.2
      have := hmB c hc
      omega)
  have tot : cS (fun l => Y l * ch l) NB + cS (fun l => Y l * wx l) NB = (Y 0 * ch 0 + Y 0 * wx 0) + cS (fun s => cS (fun j => (fun l => Y l * ch l + Y l * wx l) ((1 + cS mB s).toNat + j)) (mB s).toNat) nB := tot
  rw [y0] at tot
  have base : DY * (wx 0 + ch 0) ≤ cS (fun l => Y l * wx l) NB := by
    rw [Int.mul_add]
    omega
  -- the shares that were filled up
  have small := (du_small (w := w) (M := NA) (N := NB) (Y := Y) (δ := fun i => X i - x i) (DY := DY) (T := cS t nA) (fun l hl => ⟨yp l (by omega), cap l (by omega)⟩) (fun i hi => by have := a2 i; show 0 ≤ X i - x i ∧ X i - x i ≤ cS t nA; omega)).1
  have ex : cS (fun l => Y l * cS (fun i => w i l * X i) NA) NB = cS (fun l => Y l * wx l) NB + cS (fun l => Y l * cS (fun i => w i l * (X i - x i)) NA) NB := by
    rw [← cS_add]
    refine cS_congr (fun l _ => ?_)
    show Y l * cS (fun i => w i l * X i) NA = Y l * wx l + Y l * cS (fun i => w i l * (X i - x i)) NA
    rw [← Int.mul_add, hwx, ← cS_add]
    congr 1
    exact cS_congr (fun i _ => by rw [← Int.mul_add, show x i + (X i - x i) = X i by omega])
  have T0 : 0 ≤ cS t nA := cS_nn tp
  have DY0 : 0 ≤ DY := by rw [← y0]; exact yp 0 (by omega)
  have bnd : DY * cS t nA * cS (fun i => cS (fun l => ((w i l).natAbs : Int)) NB) NA ≤ DY * cS t nA * U := Int.mul_le_mul_of_nonneg_left hU (Int.mul_nonneg DY0 T0)
  have e9 : DY * top = DY * (wx 0 + ch 0) - DY * cS t nA * U := by rw [ht', Int.mul_sub, Int.mul_comm U, Int.mul_assoc]
  rw [e9, ex]
  omega
