/-- as much as is wanted, taken from what is there -/
theorem du_take (f : Nat → Int) : ∀ (M : Nat) (c : Int), (∀ j, j < M → 0 ≤ f j) → 0 ≤ c → c ≤ cS f M → ∃ f' : Nat → Int, (∀ j, j < M → 0 ≤ f' j ∧ f' j ≤ f j) ∧ cS f' M = c := by
  intro M
  induction M with
  | zero =>
    intro c _ c0 c1
    have c1 : c ≤ 0 := c1
    exact ⟨f, fun j hj => by omega, by show (0 : Int) = c; omega⟩
  | succ M ih =>
    intro c hf c0 c1
    have c1 : c ≤ cS f M + f M := c1
    have fM := hf M (by omega)
    have sM : 0 ≤ cS f M := cS_nn (fun j hj => hf j (by omega))
    obtain ⟨a, ha⟩ : ∃ a, a = if f M ≤ c then f M else c := ⟨_, rfl⟩
    have a1 : 0 ≤ a ∧ a ≤ f M ∧ 0 ≤ c - a ∧ c - a ≤ cS f M := by
      by_cases q : f M ≤ c
      · rw [if_pos q] at ha; omega
      · rw [if_neg q] at ha; omega
    obtain ⟨f', h1, h2⟩ := ih (c - a) (fun j hj => hf j (by omega)) a1.2.2.1 a1.2.2.2
    refine ⟨lp_U f' M a, fun j hj => ?_, ?_⟩
    · by_cases q : j = M
      · rw [q, lp_U_same]; omega
      · rw [lp_U_other q]; exact h1 j (by omega)
    · show cS (lp_U f' M a) M + lp_U f' M a M = c
      rw [lp_U_same, cS_congr (fun j hj => lp_U_other (show j ≠ M by omega)), h2]
      omega
/-- shares that are too many are cut down -/
theorem du_cut {n : Nat} {m p d : Nat → Int} (hL : rq_L n (1 + cS m n) m (fun i => 1 + cS m i) d p) {y e : Nat → Int} (yp : ∀ l : Nat, 0 ≤ y l) (ep : ∀ s, s < n → 0 ≤ e s) (ys : ∀ s, s < n → cS (fun j => y ((1 + cS m s).toNat + j)) (m s).toNat = y (p s).toNat + e s) : ∀ k, k ≤ n → ∃ Y : Nat → Int, Y 0 = y 0 ∧ (∀ l : Nat, 1 + cS m k ≤ (l : Int) → Y l = y l) ∧ (∀ l : Nat, 0 ≤ Y l ∧ Y l ≤ y l ∧ y l ≤ Y l + cS e k) ∧ ∀ s, s < k → cS (fun j => Y ((1 + cS m s).toNat + j)) (m s).toNat = Y (p s).toNat := by
  have hm : ∀ s, s < n → 1 ≤ m s := fun s hs => (hL.2.1 s hs).2.1
  have pos := du_pos hm
  intro k
  induction k with
  | zero => intro _; exact ⟨y, rfl, fun _ _ => rfl, fun l => ⟨yp l, Int.le_refl _, by show y l ≤ y l + 0; omega⟩, fun s hs => by omega⟩
  | succ k ih =>
    intro hk
    obtain ⟨Y, a0, a1, a2, a3⟩ := ih (by omega)
    have pk := du_par hL (show k < n by omega)
    have ck := pos k (by omega)
    have mk := hm k (by omega)
    have ek := ep k (by omega)
    have yk := ys k (by omega)
    obtain ⟨q, hq⟩ : ∃ q : Nat, q = (1 + cS m k).toNat := ⟨_, rfl⟩
    rw [← hq] at yk
    have b2 := a2 (p k).toNat
    obtain ⟨f', h1, h2⟩ := du_take (fun j => y (q + j)) (m k).toNat (Y (p k).toNat) (fun j _ => yp _) b2.1 (by omega)
    have dif : ∀ j, j < (m k).toNat → y (q + j) - f' j ≤ cS e k + e k := fun j hj => by
      have one := cS_le (f := fun j => y (q + j) + - f' j) (n := (m k).toNat) (i := j) (fun i hi => by have := h1 i hi; show 0 ≤ y (q + i) + - f' i; omega) hj
      rw [cS_add, du_neg, h2, yk] at one
      have one : y (q + j) + - f' j ≤ y (p k).toNat + e k + - Y (p k).toNat := one
      omega
    have e0 : 0 ≤ cS e k := cS_nn (fun i hi => ep i (by omega))
    obtain ⟨Z, hZ⟩ : ∃ Z : Nat → Int, Z = fun l => if q ≤ l ∧ l < q + (m k).toNat then f' (l - q) else Y l := ⟨_, rfl⟩
    have zin : ∀ j, j < (m k).toNat → Z (q + j) = f' j := fun j hj => by
      rw [hZ]
      show (if q ≤ q + j ∧ q + j < q + (m k).toNat then f' (q + j - q) else Y (q + j)) = f' j
      rw [if_pos ⟨by omega, by omega⟩, show q + j - q = j by omega]
    have zout : ∀ l, ¬ (q ≤ l ∧ l < q + (m k).toNat) → Z l = Y l := fun l hl => by
      rw [hZ]
      exact if_neg hl
    refine ⟨Z, ?_, fun l hl => ?_, fun l => ?_, fun s hs => ?_⟩
    · rw [zout 0 (by omega)]
      exact a0
    · have hl : 1 + (cS m k + m k) ≤ (l : Int) := hl
      rw [zout l (by omega)]
      exact a1 l (by omega)
    · show 0 ≤ Z l ∧ Z l ≤ y l ∧ y l ≤ Z l + (cS e k + e k)
      by_cases c : q ≤ l ∧ l < q + (m k).toNat
      · have el : q + (l - q) = l := by omega
        have z1 := zin (l - q) (by omega)
        have z2 := h1 (l - q) (by omega)
        have z3 := dif (l - q) (by omega)
        have z2 : 0 ≤ f' (l - q) ∧ f' (l - q) ≤ y (q + (l - q)) := z2
        rw [el] at z1 z2 z3
        omega
      · rw [zout l c]
        have := a2 l
        omega
    · by_cases c : s = k
      · rw [c, ← hq, cS_congr (f := fun j => Z (q + j)) (g := f') (fun j hj => zin j hj), h2, zout _ (by omega)]
      · have hs : s < k := by omega
        have ps := du_par hL (show s < n by omega)
        have cs1 : 1 + cS m s + m s ≤ 1 + cS m k := hL.2.2.1 s k hs (by omega)
        have cs0 := pos s (by omega)
        have ms := hm s (by omega)
        rw [cS_congr (f := fun j => Z ((1 + cS m s).toNat + j)) (g := fun j => Y ((1 + cS m s).toNat + j)) (fun j hj => zout _ (by omega)), zout _ (by omega)]
        exact a3 s hs
set_option maxHeartbeats 4000000 in
/-- B's side of the class's table: its lines hold what it says -/
theorem du_c2 {nA nB : Nat} {mA pA dA mB pB dB : Nat → Int} {w : Nat → Nat → Int} {y z e fl : Nat → Int} {D U top : Int} (LA : rq_L nA (1 + cS mA nA) mA (fun i => 1 + cS mA i) dA pA) (LB : rq_L nB (1 + cS mB nB) mB (fun i => 1 + cS mB i) dB pB)
    (y0 : y 0 = D) (yp : ∀ l : Nat, 0 ≤ y l) (ep : ∀ s, s < nB → 0 ≤ e s) (ys : ∀ s, s < nB → cS (fun j => y ((1 + cS mB s).toNat + j)) (mB s).toNat = y (pB s).toNat + e s)
    (zb : ∀ s, s < nA → ∀ j : Nat, (j : Int) < mA s → D * U * (1 - cS (fun c => if (pA c).toNat = (1 + cS mA s).toNat + j then 1 else 0) nA) + cS (fun l => w ((1 + cS mA s).toNat + j) l * y l) (1 + cS mB nB).toNat ≤ z s - cS (fun c => if (pA c).toNat = (1 + cS mA s).toNat + j then z c else 0) nA)
    (hU : cS (fun i => cS (fun l => ((w i l).natAbs : Int)) (1 + cS mB nB).toNat) (1 + cS mA nA).toNat ≤ U) (hf : ∀ s, s < nB → U ≤ fl s)
    (ht : top = cS (fun l => w 0 l * y l) (1 + cS mB nB).toNat + cS (fun s => fl s * e s) nB + cS (fun c => if (pA c).toNat = 0 then z c else 0) nA - D * U * cS (fun c => if (pA c).toNat = 0 then 1 else 0) nA) :
    ∃ Y', du_R nB mB pB D Y' ∧ ∀ X DX, du_R nA mA pA DX X → cS (fun i => X i * cS (fun l => w i l * Y' l) (1 + cS mB nB).toNat) (1 + cS mA nA).toNat ≤ DX * top := by
  obtain ⟨Y, a0, a1, a2, a3⟩ := du_cut LB yp ep ys nB (Nat.le_refl nB)
  refine ⟨Y, ⟨a0.trans y0, fun l _ => (a2 l).1, a3⟩, fun X DX hX => ?_⟩
  have cap := du_cap LA hX nA (Nat.le_refl nA)
  obtain ⟨x0, xp, xs⟩ := id hX
  have hmA : ∀ s, s < nA → 1 ≤ mA s := fun s hs => (LA.2.1 s hs).2.1
  have posA := du_pos hmA
  have pnA := posA nA (Nat.le_refl nA)
  obtain ⟨NA, hNA⟩ : ∃ NA : Nat, NA = (1 + cS mA nA).toNat := ⟨_, rfl⟩
  obtain ⟨NB, hNB⟩ : ∃ NB : Nat, NB = (1 + cS mB nB).toNat := ⟨_, rfl⟩
  obtain ⟨wy, hwy⟩ : ∃ wy : Nat → Int, wy = fun i => cS (fun l => w i l * y l) NB := ⟨_, rfl⟩
  obtain ⟨zc, hzc⟩ : ∃ zc : Nat → Int, zc = fun i => cS (fun c => if (pA c).toNat = i then z c else 0) nA := ⟨_, rfl⟩
  obtain ⟨ch, hch⟩ : ∃ ch : Nat → Int, ch = fun i => cS (fun c => if (pA c).toNat = i then (1 : Int) else 0) nA := ⟨_, rfl⟩
  obtain ⟨DU, hDU⟩ : ∃ DU, DU = D * U := ⟨_, rfl⟩
  rw [← hNA, ← hNB]
  rw [← hNB, ← hDU] at ht zb
  rw [← hNA, ← hNB] at hU
  have zb' : ∀ s, s < nA → ∀ j : Nat, (j : Int) < mA s → DU * (1 - ch ((1 + cS mA s).toNat + j)) + wy ((1 + cS mA s).toNat + j) ≤ z s - zc ((1 + cS mA s).toNat + j) := fun s hs j hj => by rw [hch, hwy, hzc]; exact zb s hs j hj
  have ht' : top = wy 0 + cS (fun s => fl s * e s) nB + zc 0 - DU * ch 0 := by rw [hch, hwy, hzc]; exact ht
  have lines := fun F => du_lines (m := mA) F nA hmA
  rw [← hNA] at lines
  have parN : ∀ c, c < nA → (pA c).toNat < NA := fun c hc => by
    have q := du_par LA hc
    have top9 : 1 + cS mA c + mA c ≤ 1 + cS mA nA := (LA.2.1 c hc).2.2
    have := hmA c hc
    omega
  -- the sets of A
  have sets : cS (fun s => cS (fun j => (fun l => X l * (DU * (1 - ch l)) + X l * wy l) ((1 + cS mA s).toNat + j)) (mA s).toNat) nA ≤ cS (fun s => X (pA s).toNat * z s + - cS (fun j => (fun l => X l * zc l) ((1 + cS mA s).toNat + j)) (mA s).toNat) nA := du_le (fun s hs => by
    show cS (fun j => (fun l => X l * (DU * (1 - ch l)) + X l * wy l) ((1 + cS mA s).toNat + j)) (mA s).toNat ≤ X (pA s).toNat * z s + - cS (fun j => (fun l => X l * zc l) ((1 + cS mA s).toNat + j)) (mA s).toNat
    rw [← xs s hs, ← cS_mulr, ← du_neg, ← cS_add]
    refine du_le (fun j hj => ?_)
    show X ((1 + cS mA s).toNat + j) * (DU * (1 - ch ((1 + cS mA s).toNat + j))) + X ((1 + cS mA s).toNat + j) * wy ((1 + cS mA s).toNat + j) ≤ X ((1 + cS mA s).toNat + j) * z s + - (X ((1 + cS mA s).toNat + j) * zc ((1 + cS mA s).toNat + j))
    have top9 : 1 + cS mA s + mA s ≤ 1 + cS mA nA := (LA.2.1 s hs).2.2
    have ps := posA s (by omega)
    have q := Int.mul_le_mul_of_nonneg_left (zb' s hs j (by omega)) (xp ((1 + cS mA s).toNat + j) (by omega))
    rw [Int.mul_add, Int.mul_sub _ (z s)] at q
    omega)
  rw [cS_add, du_neg] at sets
  have t1 := lines (fun l => X l * (DU * (1 - ch l)) + X l * wy l)
  rw [cS_add] at t1
  have t1 : cS (fun l => X l * (DU * (1 - ch l))) NA + cS (fun l => X l * wy l) NA = (X 0 * (DU * (1 - ch 0)) + X 0 * wy 0) + cS (fun s => cS (fun j => (fun l => X l * (DU * (1 - ch l)) + X l * wy l) ((1 + cS mA s).toNat + j)) (mA s).toNat) nA := t1
  have t2 : cS (fun l => X l * zc l) NA = X 0 * zc 0 + cS (fun s => cS (fun j => (fun l => X l * zc l) ((1 + cS mA s).toNat + j)) (mA s).toNat) nA := lines (fun l => X l * zc l)
  have t3 : cS (fun l => X l * zc l) NA = cS (fun c => X (pA c).toNat * z c) nA := by
    rw [hzc]
    exact du_child parN
  have t4 : cS (fun l => X l * ch l) NA = cS (fun c => X (pA c).toNat * 1) nA := by
    rw [hch]
    exact du_child (u := fun _ => 1) parN
  have t5 : cS X NA = X 0 + cS (fun s => X (pA s).toNat) nA := by
    rw [lines X]
    congr 1
    exact cS_congr (fun s hs => xs s hs)
  have t6 : cS (fun l => X l * (DU * (1 - ch l))) NA = DU * DX := by
    have e1 : cS (fun l => X l * (DU * (1 - ch l))) NA = cS (fun l => DU * (X l + - (X l * ch l))) NA := cS_congr (fun l _ => by
      rw [Int.mul_left_comm, Int.mul_sub, Int.mul_one]
      rfl)
    rw [e1, du_mull, cS_add, du_neg, t4, t5, cS_congr (f := fun c => X (pA c).toNat * 1) (g := fun s => X (pA s).toNat) (fun c _ => Int.mul_one _), x0]
    congr 1
    omega
  rw [x0] at t1 t2
  rw [t6] at t1
  have e2 : DX * (DU * (1 - ch 0)) = DU * DX - DX * (DU * ch 0) := by
    rw [Int.mul_sub, Int.mul_sub, Int.mul_one, Int.mul_comm DX DU]
  have base : cS (fun l => X l * wy l) NA ≤ DX * (wy 0 + zc 0 - DU * ch 0) := by
    rw [Int.mul_sub, Int.mul_add]
    omega
  -- the shares that were cut down
  have sm := du_small (w := fun l i => w i l) (M := NB) (N := NA) (Y := X) (δ := fun l => y l - Y l) (DY := DX) (T := cS e nB) (fun l hl => ⟨xp l (by omega), cap l (by omega)⟩) (fun i hi => by have := a2 i; show 0 ≤ y i - Y i ∧ y i - Y i ≤ cS e nB; omega)
  have sm1 := sm.1
  have cm : cS (fun i => cS (fun l => (((fun l i => w i l) i l).natAbs : Int)) NA) NB = cS (fun i => cS (fun l => ((w i l).natAbs : Int)) NB) NA := cS_comm (fun i l => ((w l i).natAbs : Int)) NB NA
  rw [cm] at sm1
  have sm1 : - (DX * cS e nB * cS (fun i => cS (fun l => ((w i l).natAbs : Int)) NB) NA) ≤ cS (fun i => X i * cS (fun l => w i l * (y l - Y l)) NB) NA := sm1
  have ex : cS (fun l => X l * wy l) NA = cS (fun i => X i * cS (fun l => w i l * Y l) NB) NA + cS (fun i => X i * cS (fun l => w i l * (y l - Y l)) NB) NA := by
    rw [← cS_add]
    refine cS_congr (fun i _ => ?_)
    show X i * wy i = X i * cS (fun l => w i l * Y l) NB + X i * cS (fun l => w i l * (y l - Y l)) NB
    rw [← Int.mul_add, hwy, ← cS_add]
    congr 1
    exact cS_congr (fun l _ => by rw [← Int.mul_add, show Y l + (y l - Y l) = y l by omega])
  have E0 : 0 ≤ cS e nB := cS_nn ep
  have DX0 : 0 ≤ DX := by rw [← x0]; exact xp 0 (by omega)
  have bnd : DX * cS e nB * cS (fun i => cS (fun l => ((w i l).natAbs : Int)) NB) NA ≤ DX * cS e nB * U := Int.mul_le_mul_of_nonneg_left hU (Int.mul_nonneg DX0 E0)
  have flo : cS e nB * U ≤ cS (fun s => fl s * e s) nB := by
    rw [← cS_mulr]
    refine du_le (fun s hs => ?_)
    show e s * U ≤ fl s * e s
    rw [Int.mul_comm (fl s)]
    exact Int.mul_le_mul_of_nonneg_left (hf s hs) (ep s hs)
  have flo2 : DX * (cS e nB * U) ≤ DX * cS (fun s => fl s * e s) nB := Int.mul_le_mul_of_nonneg_left flo DX0
  rw [← Int.mul_assoc] at flo2
  have e9 : DX * top = DX * (wy 0 + zc 0 - DU * ch 0) + DX * cS (fun s => fl s * e s) nB := by
    rw [← Int.mul_add, ht']
    congr 1
    omega
  rw [e9]
  omega
