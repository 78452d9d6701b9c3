theorem rb_lt_trans {n : Nat} {x y w : Nat → Int} (h1 : rb_lt n x y) (h2 : rb_lt n y w) : rb_lt n x w := by
  obtain ⟨s, s1, s2, s3⟩ := h1
  obtain ⟨t, t1, t2, t3⟩ := h2
  rcases Nat.lt_trichotomy s t with c | c | c
  · exact ⟨s, s1, by rw [← t3 s c]; exact s2, fun i hi => (s3 i hi).trans (t3 i (by omega))⟩
  · subst c
    exact ⟨s, s1, by omega, fun i hi => (s3 i hi).trans (t3 i hi)⟩
  · exact ⟨t, t1, by rw [s3 t c]; exact t2, fun i hi => (s3 i (by omega)).trans (t3 i hi)⟩
theorem rb_lt_irr {n : Nat} {x y : Nat → Int} (e : ∀ s, s < n → x s = y s) : ¬ rb_lt n x y := fun h => by
  obtain ⟨s, s1, s2, s3⟩ := h
  have := e s s1
  omega
theorem rb_lt_congr {n : Nat} {x x' y y' : Nat → Int} (e : ∀ s, s < n → x s = x' s) (e' : ∀ s, s < n → y s = y' s) (h : rb_lt n x y) : rb_lt n x' y' := by
  obtain ⟨s, s1, s2, s3⟩ := h
  exact ⟨s, s1, by rw [← e s s1, ← e' s s1]; exact s2, fun i hi => by rw [← e i (by omega), ← e' i (by omega)]; exact s3 i hi⟩
/-- the next plan is behind this one, and none is between them -/
theorem lq_up (mv : Nat → Int) (b k : Nat) (f : Nat → Int) (hr : lq_r mv b k f = 1) : rb_lt k (fun s => f (b + s)) (fun s => lq_n mv b k f (b + s)) := by
  induction k generalizing f with
  | zero => simp [lq_r] at hr
  | succ k ih =>
    simp only [lq_r] at hr
    by_cases c : f (b + k) + 1 < mv (b + k)
    · refine ⟨k, by omega, ?_, fun i hi => ?_⟩
      · show f (b + k) < lq_n mv b (k + 1) f (b + k)
        simp only [lq_n]
        rw [if_pos c, lp_U_same]
        omega
      · show f (b + i) = lq_n mv b (k + 1) f (b + i)
        simp only [lq_n]
        rw [if_pos c, lp_U_other (by omega)]
    · rw [if_neg c] at hr
      obtain ⟨s, s1, s2, s3⟩ := ih _ hr
      have en : ∀ i, lq_n mv b (k + 1) f (b + i) = lq_n mv b k (lp_U f (b + k) 0) (b + i) := fun i => by
        simp only [lq_n]
        rw [if_neg c]
      have ef : ∀ i, i < k → lp_U f (b + k) 0 (b + i) = f (b + i) := fun i hi => lp_U_other (by omega)
      refine ⟨s, by omega, ?_, fun i hi => ?_⟩
      · show f (b + s) < lq_n mv b (k + 1) f (b + s)
        rw [en, ← ef s s1]
        exact s2
      · show f (b + i) = lq_n mv b (k + 1) f (b + i)
        rw [en, ← ef i (by omega)]
        exact s3 i hi
theorem lq_gap (mv : Nat → Int) (b k : Nat) (f x : Nat → Int) (hx : ∀ s, s < k → 0 ≤ x (b + s) ∧ x (b + s) < mv (b + s)) (h : lq_r mv b k f = 0 ∨ rb_lt k (fun s => x (b + s)) (fun s => lq_n mv b k f (b + s))) : (∀ s, s < k → x (b + s) = f (b + s)) ∨ rb_lt k (fun s => x (b + s)) (fun s => f (b + s)) := by
  induction k generalizing f with
  | zero => exact Or.inl (fun s hs => by omega)
  | succ k ih =>
    have xk := hx k (by omega)
    have fin : x (b + k) ≤ f (b + k) → (∀ s, s < k → x (b + s) = f (b + s)) → (∀ s, s < k + 1 → x (b + s) = f (b + s)) ∨ rb_lt (k + 1) (fun s => x (b + s)) (fun s => f (b + s)) := by
      intro le eq
      by_cases e : x (b + k) = f (b + k)
      · refine Or.inl (fun s hs => ?_)
        by_cases es : s = k
        · rw [es]; exact e
        · exact eq s (by omega)
      · exact Or.inr ⟨k, by omega, by show x (b + k) < f (b + k); omega, eq⟩
    by_cases c : f (b + k) + 1 < mv (b + k)
    · rcases h with h | ⟨s, s1, s2, s3⟩
      · simp only [lq_r] at h
        rw [if_pos c] at h
        exact absurd h (by decide)
      · have en : ∀ i, i < k → lq_n mv b (k + 1) f (b + i) = f (b + i) := fun i hi => by
          simp only [lq_n]
          rw [if_pos c, lp_U_other (by omega)]
        have ek : lq_n mv b (k + 1) f (b + k) = f (b + k) + 1 := by
          simp only [lq_n]
          rw [if_pos c, lp_U_same]
        have s2 : x (b + s) < lq_n mv b (k + 1) f (b + s) := s2
        have s3 : ∀ i, i < s → x (b + i) = lq_n mv b (k + 1) f (b + i) := s3
        by_cases es : s = k
        · subst es
          rw [ek] at s2
          exact fin (by omega) (fun i hi => by rw [s3 i hi, en i hi])
        · exact Or.inr ⟨s, by omega, by show x (b + s) < f (b + s); rw [← en s (by omega)]; exact s2, fun i hi => by show x (b + i) = f (b + i); rw [s3 i hi, en i (by omega)]⟩
    · have ef : ∀ i, i < k → lp_U f (b + k) 0 (b + i) = f (b + i) := fun i hi => lp_U_other (by omega)
      have en : ∀ i, lq_n mv b (k + 1) f (b + i) = lq_n mv b k (lp_U f (b + k) 0) (b + i) := fun i => by
        simp only [lq_n]
        rw [if_neg c]
      have h2 : lq_r mv b k (lp_U f (b + k) 0) = 0 ∨ rb_lt k (fun s => x (b + s)) (fun s => lq_n mv b k (lp_U f (b + k) 0) (b + s)) := by
        rcases h with h | ⟨s, s1, s2, s3⟩
        · simp only [lq_r] at h
          rw [if_neg c] at h
          exact Or.inl h
        · have s2 : x (b + s) < lq_n mv b (k + 1) f (b + s) := s2
          have s3 : ∀ i, i < s → x (b + i) = lq_n mv b (k + 1) f (b + i) := s3
          by_cases es : s = k
          · subst es
            rw [en, lq_n_out _ _ _ _ _ (by omega), lp_U_same] at s2
            omega
          · exact Or.inr ⟨s, by omega, by show x (b + s) < lq_n mv b k (lp_U f (b + k) 0) (b + s); rw [← en]; exact s2, fun i hi => by show x (b + i) = lq_n mv b k (lp_U f (b + k) 0) (b + i); rw [← en]; exact s3 i hi⟩
      rcases ih _ (fun s hs => hx s (by omega)) h2 with q | ⟨s, s1, s2, s3⟩
      · exact fin (by omega) (fun s hs => by rw [q s hs, ef s hs])
      · have s2 : x (b + s) < lp_U f (b + k) 0 (b + s) := s2
        have s3 : ∀ i, i < s → x (b + i) = lp_U f (b + k) 0 (b + i) := s3
        exact Or.inr ⟨s, by omega, by show x (b + s) < f (b + s); rw [← ef s s1]; exact s2, fun i hi => by show x (b + i) = f (b + i); rw [s3 i hi, ef i (by omega)]⟩
theorem mj_cmp {a a' C D v v' : Int} (hC : 0 < C) (hD : 0 < D) (h : a * C = D * v) (h' : a' * C = D * v') : (a ≤ a' → v ≤ v') ∧ (a < a' → v < v') := by
  constructor
  · intro le
    apply Classical.byContradiction
    intro hn
    have q1 : a * C ≤ a' * C := Int.mul_le_mul_of_nonneg_right le (by omega)
    have q2 : D * (v' + 1) ≤ D * v := Int.mul_le_mul_of_nonneg_left (by omega) (by omega)
    rw [Int.mul_add, Int.mul_one] at q2
    omega
  · intro lt
    apply Classical.byContradiction
    intro hn
    have q1 : (a + 1) * C ≤ a' * C := Int.mul_le_mul_of_nonneg_right (by omega) (by omega)
    have q2 : D * v' ≤ D * v := Int.mul_le_mul_of_nonneg_left (by omega) (by omega)
    rw [Int.add_mul, Int.one_mul] at q1
    omega
theorem mf_F_K {A B : Nat → Nat → Int} {t N D : Int} (h0 : B 0 = A 0) (h1 : B 1 = A 1) (h2 : B 2 = A 2) (h : mf_F A t N D) : mf_F B t N D := by
  unfold mf_F hb_v hb_z hb_g at *
  rw [h0, h1, h2]
  exact h
/-- what each end is worth, move by move on the way to it: x the plan of player q, the others' chances as told -/
noncomputable def mj_I (A : Nat → Nat → Int) (g q : Nat) (C0 : Int) (x : Nat → Int) (I : Nat → Nat → Int) : Prop := ∀ e : Nat, (e : Int) < A 14 g → A 19 (400 * g + e) * C0 = A 25 g * I e 0 ∧ ∀ j : Nat, (j : Int) < A 21 (400 * g + e) →
  (¬ A 22 ((A 20 (400 * g + e)).toNat + j) / 10 = (q : Int) → A 50 (4 * A 22 ((A 20 (400 * g + e)).toNat + j) + A 23 ((A 20 (400 * g + e)).toNat + j)).toNat * I e (j + 1) = A 49 (4 * A 22 ((A 20 (400 * g + e)).toNat + j) + A 23 ((A 20 (400 * g + e)).toNat + j)).toNat * I e j) ∧ (A 22 ((A 20 (400 * g + e)).toNat + j) / 10 = (q : Int) → I e (j + 1) = (if x (A 22 ((A 20 (400 * g + e)).toNat + j) - 10 * (q : Int)).toNat = A 23 ((A 20 (400 * g + e)).toNat + j) then I e j else 0))
theorem mj_I_keep {A B : Nat → Nat → Int} {g q : Nat} {C0 : Int} {x : Nat → Int} {I : Nat → Nat → Int} (e14 : B 14 = A 14) (e19 : B 19 = A 19) (e20 : B 20 = A 20) (e21 : B 21 = A 21) (e22 : B 22 = A 22) (e23 : B 23 = A 23) (e25 : B 25 = A 25) (e49 : B 49 = A 49) (e50 : B 50 = A 50) (h : mj_I A g q C0 x I) : mj_I B g q C0 x I := by
  unfold mj_I at *
  rw [e14, e19, e20, e21, e22, e23, e25, e49, e50]
  exact h
theorem mj_r0 {N Nt Dt P C0 S I DD : Int} (hU : Dt * P = DD) (hN : N * C0 = DD * S) (h : Nt * C0 = Dt * I) : (N + Nt * P) * C0 = DD * (S + I) := by
  rw [Int.add_mul, Int.mul_add, hN, ← hU, Int.mul_right_comm Nt P C0, h, Int.mul_right_comm Dt I P]
theorem mj_r1 {Nt Dt a b C0 I0 I1 : Int} (h : Nt * C0 = Dt * I0) (hi : b * I1 = a * I0) : Nt * a * C0 = Dt * b * I1 := by
  rw [Int.mul_right_comm Nt a C0, h, Int.mul_assoc Dt b I1, hi, Int.mul_assoc Dt I0 a, Int.mul_comm I0 a]
theorem mj_r2 {q : Nat} {pa pb a : Int} (hq : (q = 0 ∧ pa = 1 ∧ pb = 0) ∨ (q = 1 ∧ pa = 0 ∧ pb = 1)) (h0 : 0 ≤ a) (h1 : a < 20) : (10 ≤ a → pb = 0 → ¬ a / 10 = (q : Int)) ∧ (10 ≤ a → ¬ pb = 0 → a / 10 = (q : Int)) ∧ (¬ 10 ≤ a → pa = 0 → ¬ a / 10 = (q : Int)) ∧ (¬ 10 ≤ a → ¬ pa = 0 → a / 10 = (q : Int)) := by
  refine ⟨fun c1 c2 => ?_, fun c1 c2 => ?_, fun c1 c2 => ?_, fun c1 c2 => ?_⟩ <;> omega
theorem mj_r3 {a : Int} (h0 : 0 ≤ a) (h1 : a < 20) : hz_rI a := ⟨by omega, by omega⟩
set_option maxHeartbeats 8000000 in
theorem wz_expectAll {q : Nat} {C0 : Int} {I : Nat → Nat → Int} {z : Nat → Int} {A : Nat → Nat → Int} {pa pb : Int} {g : Nat} {Q : (Nat → Nat → Int) → Prop} (hpa : pa = 0 ∨ pa = 1) (hpb : pb = 0 ∨ pb = 1) (hg : z 32 = (g : Int)) (hg2 : g < 2) (hG : mg_G A g) (hD : mg_D A g) (hWy : mg_W A) (hok : hb_ok A) (hpl : ∀ s, 0 ≤ A 52 s ∧ A 52 s ≤ 100) (hq : (q = 0 ∧ pa = 1 ∧ pb = 0) ∨ (q = 1 ∧ pa = 0 ∧ pb = 1)) (hI : mj_I A g q C0 (fun s => A 52 (10 * q + s)) I)
    (hQ : ∀ B N, hb_X (fun x => 4239 ≤ x) A B → hb_ok B → mf_F B 4239 N (A 25 g * mf_P (A 50) (fun _ => false) 80) → N * C0 = (A 25 g * mf_P (A 50) (fun _ => false) 80) * cS (fun e => I e (A 21 (400 * g + e)).toNat) (A 14 g).toNat → Q B) : wp_expectAll z A pa pb Q := by
  obtain ⟨hE, -, -, -, -, hcm⟩ := hG
  obtain ⟨⟨n0, n1⟩, hE2⟩ := hE
  have ra : hz_rI pa := by rcases hpa with h | h <;> rw [h] <;> exact ⟨by decide, by decide⟩
  have rb : hz_rI pb := by rcases hpb with h | h <;> rw [h] <;> exact ⟨by decide, by decide⟩
  have hr2 := fun (a : Int) (h0 : 0 ≤ a) (h1 : a < 20) => mj_r2 hq h0 h1
  clear hq hpa hpb
  have eg : (z 32).toNat = g := by omega
  have hb : ∀ i, i < 80 → 1 ≤ A 50 i ∧ A 50 i ≤ 9999 := fun i hi => (hWy i hi).2
  obtain ⟨PP, hPP⟩ : ∃ x : Int, x = mf_P (A 50) (fun _ => false) 80 := ⟨_, rfl⟩
  have hPr := mf_P_range (A 50) (fun _ => false) 80 hb
  rw [← hPP] at hPr
  rw [← hPP] at hQ
  obtain ⟨DD, hDD⟩ : ∃ x : Int, x = A 25 g * PP := ⟨_, rfl⟩
  rw [← hDD] at hQ
  have hDD1 : PP ≤ DD ∧ DD ≤ 1000000000 * PP := by
    rw [hDD]
    have k1 : 1 * PP ≤ A 25 g * PP := Int.mul_le_mul_of_nonneg_right hcm.1 (by omega)
    have k2 : A 25 g * PP ≤ 1000000000 * PP := Int.mul_le_mul_of_nonneg_right (by omega) (by omega)
    omega
  have hbig := mf_big hPr.1 hPr.2
  refine wq_setFraction (by decide) (by decide) hok (by omega) (by omega) (fun A21 hX21 hok21 hF21 x3 hx3 => ?_)
  intro P hP
  have key : ∀ (k e : Nat) (B : Nat → Nat → Int) (N : Int), (A 14 g).toNat - e = k → (e : Int) ≤ A 14 g → hb_X (fun x => 4239 ≤ x) A B → hb_ok B → mf_F B 4239 N DD → (N.natAbs : Int) ≤ (e : Int) * (1000000000 * DD) → N * C0 = DD * cS (fun e => I e (A 21 (400 * g + e)).toNat) e → P B ((400 * g + e : Nat) : Int) := by
    intro k
    induction k with
    | zero =>
      intro e B N hk he hX hokB hF hN hNC
      have e14 : B 14 = A 14 := hX.1 14 (by decide)
      refine hP B _ ⟨⟨by omega, by omega⟩, ⟨by omega, by omega⟩, by rw [eg, e14]; exact ⟨by omega, by omega⟩, fun _ => hQ B N hX hokB hF (by rw [hNC, show (A 14 g).toNat = e by omega]), fun c => by rw [eg, e14] at c; omega⟩
    | succ k ih =>
      intro e B N hk he hX hokB hF hN hNC
      have e14 : B 14 = A 14 := hX.1 14 (by decide)
      have e19 : B 19 = A 19 := hX.1 19 (by decide)
      have e25 : B 25 = A 25 := hX.1 25 (by decide)
      obtain ⟨⟨f0, f1, f2⟩, hwt, hw⟩ := hE2 e (by omega)
      obtain ⟨f, hf⟩ : ∃ f : Nat, (A 20 (400 * g + e)).toNat = f := ⟨_, rfl⟩
      obtain ⟨l, hl⟩ : ∃ l : Nat, (A 21 (400 * g + e)).toNat = l := ⟨_, rfl⟩
      have ef : A 20 (400 * g + e) = (f : Int) := by omega
      have el : A 21 (400 * g + e) = (l : Int) := by omega
      have hdis := hD.2 e (by omega)
      obtain ⟨hI0, hIj⟩ := hI e (by omega)
      rw [hf, el] at hIj
      rw [ef, el] at hw hdis
      have et : (((400 * g + e : Nat) : Int)).toNat = 400 * g + e := by omega
      refine hP B _ ⟨⟨by omega, by omega⟩, ⟨by omega, by omega⟩, by rw [eg, e14]; exact ⟨by omega, by omega⟩, fun c => by rw [eg, e14] at c; omega, fun c => ⟨⟨by omega, by omega⟩, ⟨by omega, by omega⟩, ?_⟩⟩
      rw [et, eg, e19, e25]
      refine wq_setFraction (by decide) (by decide) hokB (by omega) (by omega) (fun C hXC hokC hFC => ⟨⟨by omega, by omega⟩, fun x4 hx4 => ?_⟩)
      have hXC' : hb_X (fun x => 4239 ≤ x) A C := hb_X_trans hX (hb_X_mono (fun u e => by omega) hXC)
      rw [hXC'.1 20 (by decide), ef] at hx4
      have hF1 : mf_F C 4239 N DD := mf_F_X hXC (by decide) (by decide) (by decide) (by decide) hokB hF
      intro P2 hP2
      have key2 : ∀ (k2 j : Nat) (E : Nat → Nat → Int) (Nt Dt : Int) (u : Nat → Bool), l - j = k2 → j ≤ l → hb_X (fun x => 4239 ≤ x) A E → hb_ok E → mf_F E 4239 N DD → mf_F E 4241 Nt Dt → Dt * mf_P (A 50) u 80 = DD → (Nt.natAbs : Int) ≤ 1000000000 * Dt → (∀ i, u i = true → ∃ q, q < j ∧ (i / 4 : Nat) = (A 22 (f + q)).toNat) → Nt * C0 = Dt * I e j → P2 E ((f + j : Nat) : Int) := by
        intro k2
        induction k2 with
        | zero =>
          intro j E Nt Dt u hk2 hj hXE hokE hFs hFt hU hNt hu hNtC
          have ej : j = l := by omega
          subst ej
          have e20 : E 20 = A 20 := hXE.1 20 (by decide)
          have e21 : E 21 = A 21 := hXE.1 21 (by decide)
          have hpu := mf_P_range (A 50) u 80 hb
          have hNU : ((N + Nt * mf_P (A 50) u 80).natAbs : Int) ≤ ((e + 1 : Nat) : Int) * (1000000000 * DD) := by
            have k1 : ((Nt * mf_P (A 50) u 80).natAbs : Int) ≤ 1000000000 * DD := by
              rw [← hU]
              exact mf_abs_mul hNt (by omega) (Int.le_refl _) hFt.1 (by decide)
            have k3 : ((e + 1 : Nat) : Int) * (1000000000 * DD) = (e : Int) * (1000000000 * DD) + 1000000000 * DD := by
              rw [show ((e + 1 : Nat) : Int) = (e : Int) + 1 by omega, Int.add_mul]
              omega
            omega
          have h400 : ((e + 1 : Nat) : Int) * (1000000000 * DD) ≤ 400 * (1000000000 * DD) := Int.mul_le_mul_of_nonneg_right (by omega) (by omega)
          refine hP2 E _ ⟨⟨by omega, by omega⟩, ⟨by omega, by omega⟩, ⟨by omega, by omega⟩, by rw [et, e20, e21, ef, el]; exact ⟨by omega, by omega⟩, fun _ => ?_, fun c => by rw [et, e20, e21, ef, el] at c; omega⟩
          refine wq_addFraction hokE hFs hFt hU.symm (by omega) (by omega) (fun F hXF hokF hFF x3' hx3' => ?_)
          have e3 : x3' = ((400 * g + (e + 1) : Nat) : Int) := by omega
          rw [e3]
          exact ih (e + 1) F _ (by omega) (by omega) (hb_X_trans hXE (hb_X_mono (fun u e => by omega) hXF)) hokF hFF hNU (by
            show _ = DD * (cS (fun e => I e (A 21 (400 * g + e)).toNat) e + I e (A 21 (400 * g + e)).toNat)
            rw [hl]
            exact mj_r0 hU hNC hNtC)
        | succ k2 ih2 =>
          intro j E Nt Dt u hk2 hj hXE hokE hFs hFt hU hNt hu hNtC
          have e20 : E 20 = A 20 := hXE.1 20 (by decide)
          have e21 : E 21 = A 21 := hXE.1 21 (by decide)
          have e22 : E 22 = A 22 := hXE.1 22 (by decide)
          have e23 : E 23 = A 23 := hXE.1 23 (by decide)
          have e49 : E 49 = A 49 := hXE.1 49 (by decide)
          have e50 : E 50 = A 50 := hXE.1 50 (by decide)
          have e52 : E 52 = A 52 := hXE.1 52 (by decide)
          obtain ⟨w0, w1, w2, w3⟩ := hw (f + j) (by omega) (by omega)
          have ew : (((f + j : Nat) : Int)).toNat = f + j := by omega
          have hDt := hFt.1
          have hpu := mf_P_range (A 50) u 80 hb
          have hDtD : Dt ≤ DD := by
            rw [← hU]
            have := Int.mul_le_mul_of_nonneg_left hpu.1 (show 0 ≤ Dt by omega)
            omega
          -- one set's factor
          have next : ∀ (F : Nat → Nat → Int) (Nt' Dt' : Int) (u' : Nat → Bool), hb_X (fun x => x = 4241 ∨ x = 4242 ∨ 4243 ≤ x) E F → hb_ok F → mf_F F 4241 Nt' Dt' → Dt' * mf_P (A 50) u' 80 = DD → (Nt'.natAbs : Int) ≤ 1000000000 * Dt' → (∀ i, u' i = true → ∃ q, q < j + 1 ∧ (i / 4 : Nat) = (A 22 (f + q)).toNat) → Nt' * C0 = Dt' * I e (j + 1) → wp_expectAll_185 z F pa pb ((400 * g + e : Nat) : Int) ((f + j : Nat) : Int) P P2 Q := by
            intro F Nt' Dt' u' hXF hokF hFF hU' hN' hu' hNC' x hx
            have ex : x = ((f + (j + 1) : Nat) : Int) := by omega
            rw [ex]
            exact ih2 (j + 1) F Nt' Dt' u' (by omega) (by omega) (hb_X_trans hXE (hb_X_mono (fun u e => by omega) hXF)) hokF (mf_F_X hXF (by decide) (by decide) (by decide) (by decide) hokE hFs) hFF hU' hN' hu' hNC'
          obtain ⟨hIw, hIp⟩ := hIj j (by omega)
          have way : (¬ A 22 (f + j) / 10 = (q : Int)) → wp_expectAll_152 z E pa pb ((400 * g + e : Nat) : Int) ((f + j : Nat) : Int) (A 22 (f + j)) (A 23 (f + j)) P P2 Q := by
            intro notq
            have hIw := hIw notq
            obtain ⟨i0, hi0⟩ : ∃ i : Nat, (4 * A 22 (f + j) + A 23 (f + j)).toNat = i := ⟨_, rfl⟩
            have hi80 : i0 < 80 := by omega
            have hui : u i0 = false := by
              cases hc : u i0 with
              | false => rfl
              | true =>
                obtain ⟨q, hq, hq2⟩ := hu i0 hc
                exfalso
                have h1 := hw (f + q) (by omega) (by omega)
                have h2 := hdis (f + q) (f + j) (by omega) (by omega) (by omega)
                omega
            obtain ⟨wy1, wy2⟩ := hWy i0 hi80
            have huse := mf_P_use (A 50) u 80 i0 hi80 hui
            have hpu' := mf_P_range (A 50) (lp_U u i0 true) 80 hb
            have hU' : Dt * A 50 i0 * mf_P (A 50) (lp_U u i0 true) 80 = DD := by
              rw [← hU, huse]
              exact Int.mul_assoc _ _ _
            have hDb : Dt * A 50 i0 ≤ DD := by
              rw [← hU']
              have := Int.mul_le_mul_of_nonneg_left hpu'.1 (show 0 ≤ Dt * A 50 i0 from Int.mul_nonneg (by omega) (by omega))
              omega
            have hNa := mf_abs_mul (c := 1000000000) hNt wy1.1 wy1.2 hDt (by decide)
            refine ⟨⟨by omega, by omega⟩, ?_, ⟨by omega, by omega⟩, ?_, ?_⟩
            · rw [hi0, e49]
              exact ⟨by omega, by omega⟩
            · rw [hi0, e50]
              exact ⟨by omega, by omega⟩
            · rw [hi0, e49, e50]
              refine wq_times (by decide) (by decide) hokE (by omega) (by omega) hFt (by omega) (by omega) (fun F hXF hokF hFF => next F _ _ (lp_U u i0 true) hXF hokF hFF hU' hNa (fun i hi => ?_) (mj_r1 hNtC (by rw [hi0] at hIw; exact hIw)))
              by_cases ei : i = i0
              · exact ⟨j, by omega, by omega⟩
              · rw [lp_U_other ei] at hi
                obtain ⟨q, hq, hq2⟩ := hu i hi
                exact ⟨q, by omega, hq2⟩
          have plan : A 22 (f + j) / 10 = (q : Int) → wp_expectAll_124 z E pa pb ((400 * g + e : Nat) : Int) ((f + j : Nat) : Int) (A 22 (f + j)) (A 23 (f + j)) P P2 Q := by
            intro isq
            have hIp := hIp isq
            have hp := hpl (A 22 (f + j)).toNat
            have eix : 10 * q + (A 22 (f + j) - 10 * (q : Int)).toNat = (A 22 (f + j)).toNat := by omega
            have hIn : ¬ A 52 (A 22 (f + j)).toNat = A 23 (f + j) → I e (j + 1) = 0 * I e j := fun c => by
              rw [Int.zero_mul]
              exact hIp.trans (if_neg (show ¬ A 52 (10 * q + (A 22 (f + j) - 10 * (q : Int)).toNat) = A 23 (f + j) by rw [eix]; exact c))
            have hIy : A 52 (A 22 (f + j)).toNat = A 23 (f + j) → I e (j + 1) = 1 * I e j := fun c => by
              rw [Int.one_mul]
              exact hIp.trans (if_pos (show A 52 (10 * q + (A 22 (f + j) - 10 * (q : Int)).toNat) = A 23 (f + j) by rw [eix]; exact c))
            have fac : ∀ v : Int, (v = 0 ∨ v = 1) → I e (j + 1) = v * I e j → wp_expectAll_145 z E pa pb ((400 * g + e : Nat) : Int) ((f + j : Nat) : Int) v 4241 P P2 Q := by
              intro v hv hvI
              have hNa := mf_abs_mul (a := v) (b := 1) (c := 1000000000) hNt (by omega) (by omega) hDt (by decide)
              have hD1 : Dt * 1 = Dt := Int.mul_one _
              refine wq_times (by decide) (by decide) hokE (by omega) (by omega) hFt (by omega) (by omega) (fun F hXF hokF hFF => next F _ _ u hXF hokF hFF (by rw [hD1]; exact hU) hNa (fun i hi => ?_) (mj_r1 hNtC (by rw [Int.one_mul]; exact hvI)))
              obtain ⟨q, hq, hq2⟩ := hu i hi
              exact ⟨q, by omega, hq2⟩
            refine ⟨⟨w0, w1⟩, by rw [e52]; exact ⟨by omega, by omega⟩, ⟨by omega, by omega⟩, fun c => fac 0 (Or.inl rfl) (hIn (by rw [e52] at c; exact c)), fun c => fac 1 (Or.inr rfl) (hIy (by rw [e52] at c; exact c))⟩
          refine hP2 E _ ⟨⟨by omega, by omega⟩, ⟨by omega, by omega⟩, ⟨by omega, by omega⟩, by rw [et, e20, e21, ef, el]; exact ⟨by omega, by omega⟩, fun c => by rw [et, e20, e21, ef, el] at c; omega, fun c => ⟨⟨by omega, by omega⟩, fun x5 hx5 => ⟨⟨by omega, by omega⟩, fun x6 hx6 => ?_⟩⟩⟩
          rw [ew, e22] at hx5
          rw [ew, e23] at hx6
          rw [hx5, hx6]
          obtain ⟨k1, k2, k3, k4⟩ := hr2 _ w0 w1
          exact ⟨mj_r3 w0 w1, fun c1 => ⟨rb, fun c2 => way (k1 c1 c2), fun c2 => plan (k2 c1 c2)⟩, fun c1 => ⟨ra, fun c2 => way (k3 c1 c2), fun c2 => plan (k4 c1 c2)⟩⟩
      rw [hx4]
      refine key2 _ 0 C _ _ (fun _ => false) rfl (by omega) hXC' hokC hF1 hFC (by rw [← hPP, hDD]) ?_ (fun i hi => by simp at hi) hI0
      have k1 : 1000000000 * 1 ≤ 1000000000 * A 25 g := by omega
      omega
  have h := key _ 0 A21 0 rfl (by omega) (hb_X_mono (fun u e => by omega) hX21) hok21 (by
    refine ⟨by omega, hF21.2.1, ?_⟩
    have h3 := hF21.2.2
    rw [Int.mul_one, Int.zero_mul] at h3
    rw [h3, Int.zero_mul, Int.zero_mul]) (by simp) (by show 0 * C0 = DD * 0; rw [Int.zero_mul, Int.mul_zero])
  have e : x3 = ((400 * g + 0 : Nat) : Int) := by omega
  rw [e]
  exact h
theorem wz_compareFractions {N N2 D : Int} {z : Nat → Int} {A : Nat → Nat → Int} {x y : Int} {Q : Int → (Nat → Nat → Int) → Prop} (x0 : 0 ≤ x) (x1 : x + 1 < 4243) (y0 : 0 ≤ y) (y1 : y + 1 < 4243) (hok : hb_ok A) (hF : mf_F A x N D) (hF2 : mf_F A y N2 D) (hQ : ∀ r B, hz_rI r → hb_X (fun u => 4243 ≤ u) A B → hb_ok B → r = hb_c N N2 → Q r B) : wp_compareFractions z A x y Q := by
  have len : ∀ (C : Nat → Nat → Int), hb_ok C → ∀ u : Int, 0 ≤ u → u < 4243 → C 1 u.toNat ≤ 130 := fun C hC u u0 u1 => by
    have h1 := (hC u u0 (by omega)).1
    have h2 : hb_r u = 130 := by unfold hb_r; rw [if_neg (by omega)]
    rw [h2] at h1
    exact h1.2
  have r3 : hb_r 4243 = 270 := by decide
  have r4 : hb_r 4244 = 270 := by decide
  have l1 := len A hok x x0 (by omega)
  have l2 := len A hok (y + 1) (by omega) (by omega)
  refine wq_bigProduct (by decide) (by decide) x0 (by omega) (by omega) (by omega) (by omega) (by omega) (hok _ (by omega) (by omega)) (hok _ (by omega) (by omega)) (by omega) (fun B hXB hWB hvB _ => ?_)
  have hokB := hb_ok_one hok hXB hWB
  have l3 := len B hokB y y0 (by omega)
  have l4 := len B hokB (x + 1) (by omega) (by omega)
  refine wq_bigProduct (by decide) (by decide) y0 (by omega) (by omega) (by omega) (by omega) (by omega) (hokB _ (by omega) (by omega)) (hokB _ (by omega) (by omega)) (by omega) (fun C hXC hWC hvC _ => ?_)
  have hokC := hb_ok_one hokB hXC hWC
  refine wq_bigCompare (by decide) (by decide) (by decide) (by decide) (hokC _ (by decide) (by decide)) hWC ?_
  refine hQ _ C (hb_c_r _ _) (hb_X_trans (hb_X_mono (fun u e => by omega) hXB) (hb_X_mono (fun u e => by omega) hXC)) hokC ?_
  have e3 : hb_v C 4243 = hb_v A x * hb_v A (y + 1) := by rw [hb_X_v hXC (by decide) (by decide) (by decide) hWB, hvB]
  have e4 : hb_v C 4244 = hb_v A y * hb_v A (x + 1) := by
    rw [hvC, hb_X_v hXB y0 (by omega) (by omega) (hok _ y0 (by omega)), hb_X_v hXB (by omega) (by omega) (by omega) (hok _ (by omega) (by omega))]
  rw [e3, e4]
  obtain ⟨f1, f2, f3⟩ := hF
  obtain ⟨-, g2, g3⟩ := hF2
  have hxy : 0 < hb_v A (x + 1) * hb_v A (y + 1) := Int.mul_pos f2 g2
  have k1 : (hb_v A x * hb_v A (y + 1)) * D = (hb_v A (x + 1) * hb_v A (y + 1)) * N := by
    have : (hb_v A x * hb_v A (y + 1)) * D = (hb_v A x * D) * hb_v A (y + 1) := by grind
    rw [this, f3]
    grind
  have k2 : (hb_v A y * hb_v A (x + 1)) * D = (hb_v A (x + 1) * hb_v A (y + 1)) * N2 := by
    have : (hb_v A y * hb_v A (x + 1)) * D = (hb_v A y * D) * hb_v A (x + 1) := by grind
    rw [this, g3]
    grind
  obtain ⟨c1, c2⟩ := mj_cmp f1 hxy k1 k2
  obtain ⟨c3, c4⟩ := mj_cmp f1 hxy k2 k1
  unfold hb_c
  by_cases q : hb_v A x * hb_v A (y + 1) < hb_v A y * hb_v A (x + 1)
  · rw [if_pos q, if_pos (c2 q)]
  · by_cases q2 : hb_v A x * hb_v A (y + 1) = hb_v A y * hb_v A (x + 1)
    · have a1 := c1 (by omega)
      have a2 := c3 (by omega)
      rw [if_neg q, if_pos q2, if_neg (by omega), if_pos (by omega)]
    · have a1 := c4 (by omega)
      rw [if_neg q, if_neg q2, if_neg (by omega), if_neg (by omega)]
theorem wz_keep {N D9 : Int} {z : Nat → Int} {A : Nat → Nat → Int} {w : Int} {Q : (Nat → Nat → Int) → Prop} (w0 : 0 ≤ w) (w1 : w < 4) (hok : hb_ok A) (hth : ∀ s, A 51 s = 0 ∨ A 51 s = 1) (hF : mf_F A 4239 N D9) (hQ : ∀ B, (∀ k, 2 < k → k ≠ 51 → B k = A k) → hb_ok B → (∀ s, B 51 s = 0 ∨ B 51 s = 1) → mf_F B (4231 + 2 * w) N D9 → (∀ s, B 51 s = if s = w.toNat then 1 else A 51 s) → Q B) : wp_keep z A w Q := by
  have r1 : ∀ y : Int, y < 4243 → hb_r y = 130 := fun y h => by unfold hb_r; rw [if_neg (by omega)]
  refine wq_bigCopy (by omega) (by omega) (by decide) (by decide) (by omega) (hok _ (by decide) (by decide)) (by rw [r1 _ (by omega)]; exact hb_len130 hok (by decide) (by decide)) (fun B hXB hWB zB sB _ => ?_)
  have hokB := hb_ok_one hok hXB hWB
  refine wq_bigCopy (by omega) (by omega) (by decide) (by decide) (by omega) (hokB _ (by decide) (by decide)) (by rw [r1 _ (by omega)]; exact hb_len130 hokB (by decide) (by decide)) (fun C hXC hWC zC sC _ => ?_)
  have hokC := hb_ok_one hokB hXC hWC
  refine ⟨⟨w0, w1⟩, fun D hD => ?_⟩
  have hK : lq_K 51 C D := by rw [hD]; exact lq_K_s _ _ _ _
  have v1 : hb_v B (4231 + 2 * w) = hb_v A 4239 := hb_copy_v zB sB
  have v2 : hb_v C (4231 + 2 * w + 1) = hb_v B 4240 := hb_copy_v zC sC
  have v3 : hb_v C (4231 + 2 * w) = hb_v B (4231 + 2 * w) := hb_X_v hXC (by omega) (by omega) (by omega) hWB
  have v4 : hb_v B 4240 = hb_v A 4240 := hb_X_v hXB (by decide) (by decide) (by omega) (hok _ (by decide) (by decide))
  have FC : mf_F C (4231 + 2 * w) N D9 := by
    obtain ⟨f1, f2, f3⟩ := hF
    refine ⟨f1, ?_, ?_⟩
    · rw [v2, v4]; exact f2
    · rw [v3, v1, v2, v4]; exact f3
  refine hQ D (fun k k2 k51 => by rw [hK k k51, hXC.1 k k2, hXB.1 k k2]) (hb_ok_K (by decide) hK hokC) (fun s => ?_) (mf_F_K (hK 0 (by decide)) (hK 1 (by decide)) (hK 2 (by decide)) FC) (fun s => by
    rw [hD, lq_s_fun]
    unfold hz_u
    rw [hXC.1 51 (by decide), hXB.1 51 (by decide)])
  rw [hD, lq_s_fun]
  unfold hz_u
  split
  · exact Or.inr rfl
  · rw [hXC.1 51 (by decide), hXB.1 51 (by decide)]
    exact hth s
/-- of the plans up to c the first of the best is kept: k -/
noncomputable def mj_k (q n : Nat) (m : Nat → Int) (V : (Nat → Int) → Int) (C0 D9 p : Int) (B : Nat → Nat → Int) (k : Nat → Int) : Prop := ∃ N : Int, mf_F B (4231 + 2 * (1 + p)) N D9 ∧ N * C0 = D9 * V k ∧ rb_pl n m k ∧ ∀ s, s < n → B 53 (10 * q + s) = k s
noncomputable def mj_T (q n : Nat) (m : Nat → Int) (V : (Nat → Int) → Int) (C0 D9 p : Int) (c : Nat → Int) (B : Nat → Nat → Int) : Prop := B 51 (1 + p).toNat = 1 ∧ ∃ k : Nat → Int, mj_k q n m V C0 D9 p B k ∧ ((∀ s, s < n → k s = c s) ∨ rb_lt n k c) ∧ ∀ x, rb_pl n m x → ((∀ s, s < n → x s = c s) ∨ rb_lt n x c) → cg_d (q : Int) * V x ≤ cg_d (q : Int) * V k ∧ (rb_lt n x k → cg_d (q : Int) * V x < cg_d (q : Int) * V k)
/-- .. ahead of c -/
noncomputable def mj_U (q n : Nat) (m : Nat → Int) (V : (Nat → Int) → Int) (C0 D9 p : Int) (c : Nat → Int) (B : Nat → Nat → Int) : Prop := (B 51 (1 + p).toNat = 0 ∧ ∀ x, rb_pl n m x → ¬ rb_lt n x c) ∨ (B 51 (1 + p).toNat = 1 ∧ ∃ k : Nat → Int, mj_k q n m V C0 D9 p B k ∧ rb_lt n k c ∧ ∀ x, rb_pl n m x → rb_lt n x c → cg_d (q : Int) * V x ≤ cg_d (q : Int) * V k ∧ (rb_lt n x k → cg_d (q : Int) * V x < cg_d (q : Int) * V k))
noncomputable def mj_E (q n : Nat) (m : Nat → Int) (V : (Nat → Int) → Int) (p : Int) (B : Nat → Nat → Int) : Prop := B 51 (1 + p).toNat = 1 ∧ ∃ k : Nat → Int, (∀ s, s < n → B 53 (10 * q + s) = k s) ∧ rb_B n m (fun x => cg_d (q : Int) * V x) k
/-- nothing else is changed -/
noncomputable def mj_f (q : Nat) (p : Int) (A B : Nat → Nat → Int) : Prop := (∀ i, i ≠ (1 + p).toNat → B 51 i = A 51 i) ∧ ∀ i, (i < 10 * q ∨ 10 * q + 10 ≤ i) → B 53 i = A 53 i
theorem mj_k_keep {q n : Nat} {m : Nat → Int} {V : (Nat → Int) → Int} {C0 D9 p : Int} {B C : Nat → Nat → Int} {k : Nat → Int} (hF : ∀ N, mf_F B (4231 + 2 * (1 + p)) N D9 → mf_F C (4231 + 2 * (1 + p)) N D9) (h53 : C 53 = B 53) (h : mj_k q n m V C0 D9 p B k) : mj_k q n m V C0 D9 p C k := by
  obtain ⟨N, a, b, c, d⟩ := h
  exact ⟨N, hF N a, b, c, by rw [h53]; exact d⟩
theorem mj_U_keep {q n : Nat} {m : Nat → Int} {V : (Nat → Int) → Int} {C0 D9 p : Int} {c : Nat → Int} {B C : Nat → Nat → Int} (hF : ∀ N, mf_F B (4231 + 2 * (1 + p)) N D9 → mf_F C (4231 + 2 * (1 + p)) N D9) (h51 : C 51 = B 51) (h53 : C 53 = B 53) (h : mj_U q n m V C0 D9 p c B) : mj_U q n m V C0 D9 p c C := by
  rcases h with ⟨a, b⟩ | ⟨a, k, b, d, e⟩
  · exact Or.inl ⟨by rw [h51]; exact a, b⟩
  · exact Or.inr ⟨by rw [h51]; exact a, k, mj_k_keep hF h53 b, d, e⟩
set_option maxHeartbeats 8000000 in
theorem wz_judge {V : (Nat → Int) → Int} {C0 : Int} {z : Nat → Int} {A : Nat → Nat → Int} {p : Int} {Q : (Nat → Int) → (Nat → Nat → Int) → Prop} (hI : mi_I z A) (hp : hz_rI p) (HA : (p = 1 ∨ p = 2) → z 34 = 1 → me_G z A (p - 1).toNat → 0 < C0 ∧ (∀ x y : Nat → Int, (∀ s, s < (A 26 (2 * (z 32).toNat + (2 - p).toNat)).toNat → x s = y s) → V x = V y) ∧ ∀ x, rb_pl (A 26 (2 * (z 32).toNat + (2 - p).toNat)).toNat (fun s => A 28 (20 * (z 32).toNat + (10 * (2 - p).toNat + s))) x → ∃ I : Nat → Nat → Int, mj_I A (z 32).toNat (2 - p).toNat C0 x I ∧ cS (fun e => I e (A 21 (400 * (z 32).toNat + e)).toNat) (A 14 (z 32).toNat).toNat = V x) (hQ : ∀ t B, mi_I (lp_U z 3 t) B → me_0 A B → ((t = 1 ∧ ¬ (p = 1 ∨ p = 2) ∧ B = A) ∨ (t = 2 ∧ ((p = 1 ∨ p = 2) ∧ ¬ (z 34 = 1 ∧ me_G z A (p - 1).toNat)) ∧ B = A) ∨ (t = 0 ∧ ((p = 1 ∨ p = 2) ∧ z 34 = 1 ∧ me_G z A (p - 1).toNat) ∧ mj_f (2 - p).toNat p A B ∧ mj_E (2 - p).toNat (A 26 (2 * (z 32).toNat + (2 - p).toNat)).toNat (fun s => A 28 (20 * (z 32).toNat + (10 * (2 - p).toNat + s))) V p B)) → Q (lp_U z 3 t) B) : wp_judge z A p Q := by
  have no : ∀ t : Int, 1 ≤ t → t ≤ 2 → ((t = 1 ∧ ¬ (p = 1 ∨ p = 2)) ∨ (t = 2 ∧ (p = 1 ∨ p = 2) ∧ ¬ (z 34 = 1 ∧ me_G z A (p - 1).toNat))) → wp_judge_35 z A p t Q := by
    intro t t1 t2 why z1 hz1
    subst hz1
    rw [lp_U_same]
    exact ⟨⟨by omega, by omega⟩, fun c => by omega, fun _ => hQ t A (mi_3 hI t) (fun _ _ _ => rfl) (by rcases why with h | h; exact Or.inl ⟨h.1, h.2, rfl⟩; exact Or.inr (Or.inl ⟨h.1, h.2, rfl⟩))⟩
  have yes : (p = 1 ∨ p = 2) → wp_judge_15 z A p Q := by
    intro hp2
    refine ⟨mi_k hI, fun c => no 2 (by decide) (by decide) (Or.inr ⟨rfl, hp2, fun q => by have := q.1; omega⟩), fun c => ?_⟩
    have hk : z 34 = 1 := hI.2.2.1.resolve_left c
    refine wl_isGood hI hk hp2 (fun G1 => ⟨by decide, fun _ z1 hz1 => ?_, fun q => absurd q (by decide)⟩) (fun n1 => ⟨by decide, fun q => absurd rfl q, fun _ => no 2 (by decide) (by decide) (Or.inr ⟨rfl, hp2, fun q => n1 q.2⟩)⟩)
    subst hz1
    have hI1 := mi_3 hI 0
    obtain ⟨g, hg, hgz, hgt⟩ := mi_g hI1
    have hG := hI1.2.2.2.2.2.1 hk
    rw [hgt] at hG
    rw [lp_U_same]
    refine ⟨⟨by decide, by decide⟩, fun _ x2 hx2 => ⟨⟨by omega, by omega⟩, fun A24 hA24 => ?_⟩, fun d => by omega⟩
    obtain ⟨q, hq⟩ : ∃ q : Nat, x2 = (q : Int) := ⟨x2.toNat, by omega⟩
    have hq2 : q < 2 := by omega
    subst hq
    have eq9 : (2 - p).toNat = q := by omega
    have eg9 : (z 32).toNat = g := hgt
    obtain ⟨HC, HV, HI⟩ := HA hp2 hk G1
    rw [eq9, eg9] at HV HI hQ
    have hS : mg_S A g q := by
      rcases (show q = 0 ∨ q = 1 by omega) with e | e <;> subst e
      · exact hG.1.2.1
      · exact hG.1.2.2.1
    obtain ⟨n, hn⟩ : ∃ n : Nat, (A 26 (2 * g + q)).toNat = n := ⟨_, rfl⟩
    have en : A 26 (2 * g + q) = (n : Int) := by have := hS.1; omega
    have hn10 : n ≤ 10 := by have := hS.1; omega
    rw [hn] at HV HI hQ
    obtain ⟨D9, hD9⟩ : ∃ D9 : Int, D9 = A 25 g * mf_P (A 50) (fun _ => false) 80 := ⟨_, rfl⟩
    have D9p : 0 < D9 := by
      rw [hD9]
      have k1 := (mf_P_range (A 50) (fun _ => false) 80 (fun i hi => (hG.2.2 i hi).2)).1
      have k2 := hG.1.2.2.2.2.2.1
      exact Int.mul_pos (by omega) (by omega)
    obtain ⟨m, hm⟩ : ∃ m : Nat → Int, m = fun s => A 28 (20 * g + (10 * q + s)) := ⟨_, rfl⟩
    rw [← hm] at HI hQ
    have hcg : (p = 1 ∧ cg_d (q : Int) = -1) ∨ (p = 2 ∧ cg_d (q : Int) = 1) := by
      rcases hp2 with e | e
      · exact Or.inl ⟨e, by unfold cg_d; rw [if_neg (by omega)]⟩
      · exact Or.inr ⟨e, by unfold cg_d; rw [if_pos (by omega)]⟩
    have hK24 : lq_K 51 A A24 := by rw [hA24]; exact lq_K_s _ _ _ _
    have h5124 : ∀ s, A24 51 s = 0 ∨ A24 51 s = 1 := fun s => by
      rw [hA24, lq_s_fun]
      unfold hz_u
      split
      · exact Or.inl rfl
      · exact hI1.2.2.2.2.2.2.2.2.1 s
    refine wq_firstPlan hq2 (fun A26 hK26 h26 => ?_)
    have hZ26 : ms_Z A A26 := ms_Z_trans (ms_Z_K (Or.inl rfl) hK24) (ms_Z_K (Or.inr (Or.inl rfl)) hK26)
    have hok26 : hb_ok A26 := hb_ok_K (by decide) hK26 (hb_ok_K (by decide) hK24 hI1.2.2.2.2.2.2.1)
    intro P hP
    -- a plan that is one
    have key : ∀ (k : Nat) (B : Nat → Nat → Int) (mo : Int), (if mo = 0 then 0 else (lq_m (fun s => A 28 (20 * g + s)) (10 * q) n (B 52)).toNat + 1) = k → (mo = 0 ∨ mo = 1) → ms_Z A B → hb_ok B → (∀ s, 0 ≤ B 52 s ∧ B 52 s ≤ 100) → (∀ s, B 51 s = 0 ∨ B 51 s = 1) → (∀ s, 10 * q ≤ s → s < 10 * q + n → 0 ≤ B 52 s ∧ B 52 s < A 28 (20 * g + s)) → mj_f q p A B → ((mo = 1 ∧ mj_U q n m V C0 D9 p (fun s => B 52 (10 * q + s)) B) ∨ (mo = 0 ∧ mj_E q n m V p B)) → P B mo := by
      intro k
      induction k using Nat.strongRecOn with
      | ind k ih =>
        intro B mo hk' hmo hZ hokB h52 h51 hpl hfr hinv
        have plB : rb_pl n m (fun s => B 52 (10 * q + s)) := fun s hs => by
          rw [hm]
          exact hpl (10 * q + s) (by omega) (by omega)
        have e26 : B 26 = A 26 := hZ 26 (by decide) (by decide) (by decide) (by decide) (by decide) (by decide) (by decide)
        have e28 : B 28 = A 28 := hZ 28 (by decide) (by decide) (by decide) (by decide) (by decide) (by decide) (by decide)
        refine hP B mo ⟨by rcases hmo with h | h <;> rw [h] <;> exact ⟨by decide, by decide⟩, fun c0 => hQ 0 B ?_ (me_0_of hZ) (Or.inr (Or.inr ⟨rfl, ⟨hp2, hk, G1⟩, hfr, by
          rcases hinv with q9 | q9
          · have := q9.1; omega
          · exact q9.2⟩)), fun c1 => ?_⟩
        · exact mi_keep hI1 (fun _ _ _ => rfl) hI1.2.2.2.2.2.2.2.2.2 hZ hokB h52 h51
        · have hm1 : mo = 1 := hmo.resolve_left c1
          have hU : mj_U q n m V C0 D9 p (fun s => B 52 (10 * q + s)) B := by
            rcases hinv with q9 | q9
            · exact q9.2
            · have := q9.1; omega
          -- the next plan
          have next : ∀ C, ms_Z A C → hb_ok C → C 52 = B 52 → (∀ s, C 51 s = 0 ∨ C 51 s = 1) → mj_f q p A C → mj_T q n m V C0 D9 p (fun s => B 52 (10 * q + s)) C → wp_judge_201 (lp_U z 3 0) C p (q : Int) P Q := by
            intro C hZC hokC h52C h51C hfC hT
            have f26 : C 26 = A 26 := hZC 26 (by decide) (by decide) (by decide) (by decide) (by decide) (by decide) (by decide)
            have f28 : C 28 = A 28 := hZC 28 (by decide) (by decide) (by decide) (by decide) (by decide) (by decide) (by decide)
            refine wq_nextPlan hq2 hgz hg (by rw [f26]; exact en) hn10 (fun s hs => by rw [f28]; have := hS.2 s (by omega); omega) (by rw [h52C]; exact h52) (fun E hKE hE => ?_)
            rw [f28, h52C] at hE ⊢
            have r01 := lq_r_01 (fun s => A 28 (20 * g + s)) (10 * q) n (B 52)
            have hnn := lq_n_ok (fun s => A 28 (20 * g + s)) (10 * q) n (B 52) hpl
            have hm0 := lq_m_nonneg (fun s => A 28 (20 * g + s)) (10 * q) n (lq_n (fun s => A 28 (20 * g + s)) (10 * q) n (B 52)) hnn
            have hm0' := lq_m_nonneg (fun s => A 28 (20 * g + s)) (10 * q) n (B 52) hpl
            have hZE : ms_Z A E := ms_Z_trans hZC (ms_Z_K (Or.inr (Or.inl rfl)) hKE)
            have h52E : ∀ s, 0 ≤ E 52 s ∧ E 52 s ≤ 100 := fun s => by
              rw [hE]
              refine lq_n_range _ _ n _ 100 (by decide) (fun t t1 t2 => ?_) h52 s
              have := hS.2 (t - 10 * q) (by omega)
              have e : 10 * q + (t - 10 * q) = t := by omega
              rw [e] at this
              omega
            obtain ⟨T1, kk, T2, T3, T4⟩ := hT
            obtain ⟨Nk, K1, K2, K3, K4⟩ := id T2
            have e51 : E 51 = C 51 := hKE 51 (by decide)
            have e53 : E 53 = C 53 := hKE 53 (by decide)
            have fE : mj_f q p A E := ⟨by rw [e51]; exact hfC.1, by rw [e53]; exact hfC.2⟩
            have xr : ∀ x : Nat → Int, rb_pl n m x → ∃ y : Nat → Int, (∀ s, y (10 * q + s) = x s) ∧ ∀ s, s < n → 0 ≤ y (10 * q + s) ∧ y (10 * q + s) < A 28 (20 * g + (10 * q + s)) := fun x hx => ⟨fun i => x (i - 10 * q), fun s => by show x (10 * q + s - 10 * q) = x s; rw [show 10 * q + s - 10 * q = s by omega], fun s hs => by
              show 0 ≤ x (10 * q + s - 10 * q) ∧ x (10 * q + s - 10 * q) < A 28 (20 * g + (10 * q + s))
              rw [show 10 * q + s - 10 * q = s by omega]
              have q9 := hx s hs
              rw [hm] at q9
              exact q9⟩
            have gap : ∀ x : Nat → Int, rb_pl n m x → (lq_r (fun s => A 28 (20 * g + s)) (10 * q) n (B 52) = 0 ∨ rb_lt n x (fun s => lq_n (fun s => A 28 (20 * g + s)) (10 * q) n (B 52) (10 * q + s))) → (∀ s, s < n → x s = B 52 (10 * q + s)) ∨ rb_lt n x (fun s => B 52 (10 * q + s)) := by
              intro x hx hc
              obtain ⟨y, y1, y2⟩ := xr x hx
              have q9 := lq_gap (fun s => A 28 (20 * g + s)) (10 * q) n (B 52) y y2 (by
                rcases hc with hc | hc
                · exact Or.inl hc
                · exact Or.inr (rb_lt_congr (fun s _ => (y1 s).symm) (fun s _ => rfl) hc))
              rcases q9 with q9 | q9
              · exact Or.inl (fun s hs => by rw [← y1 s]; exact q9 s hs)
              · exact Or.inr (rb_lt_congr (fun s _ => y1 s) (fun s _ => rfl) q9)
            rcases r01 with r0 | r1
            · refine ih 0 ?_ E _ (by rw [r0, if_pos rfl]) (Or.inl r0) hZE (hb_ok_K (by decide) hKE hokC) h52E (by rw [hKE 51 (by decide)]; exact h51C) (by rw [hE]; exact hnn) fE (Or.inr ⟨r0, by rw [e51]; exact T1, kk, by rw [e53]; exact K4, K3, fun x hx => T4 x hx (gap x hx (Or.inl r0))⟩)
              rw [hm1, if_neg (by decide)] at hk'
              omega
            · have hst := lq_m_step (fun s => A 28 (20 * g + s)) (10 * q) n (B 52) hpl r1
              refine ih ((lq_m (fun s => A 28 (20 * g + s)) (10 * q) n (E 52)).toNat + 1) ?_ E _ (by rw [r1, if_neg (by decide)]) (Or.inr r1) hZE (hb_ok_K (by decide) hKE hokC) h52E (by rw [hKE 51 (by decide)]; exact h51C) (by rw [hE]; exact hnn) fE (Or.inl ⟨r1, Or.inr ⟨by rw [e51]; exact T1, kk, mj_k_keep (fun N h => mf_F_K (hKE 0 (by decide)) (hKE 1 (by decide)) (hKE 2 (by decide)) h) e53 T2, ?_, fun x hx lt => T4 x hx (gap x hx (Or.inr (by rw [hE] at lt; exact lt)))⟩⟩)
              rotate_left
              · have up := lq_up (fun s => A 28 (20 * g + s)) (10 * q) n (B 52) r1
                rw [hE]
                rcases T3 with T3 | T3
                · exact rb_lt_congr (fun s hs => (T3 s hs).symm) (fun s _ => rfl) up
                · exact rb_lt_trans T3 up
              rw [hE]
              rw [hm1, if_neg (by decide)] at hk'
              omega
          have keep : ∀ C Nc, ms_Z A C → hb_ok C → C 52 = B 52 → (∀ s, C 51 s = 0 ∨ C 51 s = 1) → mj_f q p A C → mf_F C 4239 Nc D9 → Nc * C0 = D9 * V (fun s => B 52 (10 * q + s)) → (∀ x, rb_pl n m x → rb_lt n x (fun s => B 52 (10 * q + s)) → cg_d (q : Int) * V x < cg_d (q : Int) * V (fun s => B 52 (10 * q + s))) → wp_judge_156 (lp_U z 3 0) C p (q : Int) P Q := by
            intro C Nc hZC hokC h52C h51C hfC hFc hNc hbest
            refine wz_keep (by omega) (by omega) hokC h51C hFc (fun D hD hokD h51D FD D51 x5 hx5 => ?_)
            have fD : mj_f q p A D := ⟨fun i hi => by rw [D51 i, if_neg hi]; exact hfC.1 i hi, by rw [hD 53 (by decide) (by decide)]; exact hfC.2⟩
            have oneD : D 51 (1 + p).toNat = 1 := by rw [D51, if_pos rfl]
            have hZD : ms_Z A D := ms_Z_trans hZC (fun k k2 k51 _ _ _ _ _ => hD k k2 k51)
            have h52D : D 52 = B 52 := by rw [hD 52 (by decide) (by decide)]; exact h52C
            intro P2 hP2
            have key2 : ∀ (k2 j : Nat) (E : Nat → Nat → Int), 10 - j = k2 → j ≤ 10 → ms_Z A E → hb_ok E → E 52 = B 52 → (∀ s, E 51 s = 0 ∨ E 51 s = 1) → mj_f q p A E → E 51 = D 51 → mf_F E (4231 + 2 * (1 + p)) Nc D9 → (∀ i, i < j → E 53 (10 * q + i) = B 52 (10 * q + i)) → P2 E ((10 * q + j : Nat) : Int) := by
              intro k2
              induction k2 with
              | zero =>
                intro j E hk2 hj hZE hokE h52E h51E fE e51 FE h53E
                refine hP2 E _ ⟨⟨by omega, by omega⟩, ⟨by omega, by omega⟩, fun _ => next E hZE hokE h52E h51E fE ⟨by rw [e51]; exact oneD, fun s => B 52 (10 * q + s), ⟨Nc, FE, hNc, plB, fun s hs => h53E s (by omega)⟩, Or.inl (fun _ _ => rfl), fun x hx hc => ?_⟩, fun d => by omega⟩
                rcases hc with hc | hc
                · have ev : V x = V (fun s => B 52 (10 * q + s)) := HV x _ hc
                  rw [ev]
                  exact ⟨Int.le_refl _, fun lt => absurd lt (rb_lt_irr hc)⟩
                · have lt := hbest x hx hc
                  exact ⟨Int.le_of_lt lt, fun _ => lt⟩
              | succ k2 ih2 =>
                intro j E hk2 hj hZE hokE h52E h51E fE e51 FE h53E
                refine hP2 E _ ⟨⟨by omega, by omega⟩, ⟨by omega, by omega⟩, fun d => by omega, fun d => ⟨⟨by omega, by omega⟩, ⟨by omega, by omega⟩, fun F hF x6 hx6 => ?_⟩⟩
                have hKF : lq_K 53 E F := by rw [hF]; exact lq_K_s _ _ _ _
                have e6 : x6 = ((10 * q + (j + 1) : Nat) : Int) := by omega
                rw [e6]
                have f53 : ∀ i, F 53 i = if i = 10 * q + j then B 52 (10 * q + j) else E 53 i := fun i => by
                  rw [hF, lq_s_fun]
                  unfold hz_u
                  rw [show (((10 * q + j : Nat) : Int)).toNat = 10 * q + j by omega, h52E]
                refine ih2 (j + 1) F (by omega) (by omega) (ms_Z_trans hZE (ms_Z_K (Or.inr (Or.inr (Or.inl rfl))) hKF)) (hb_ok_K (by decide) hKF hokE) (by rw [hKF 52 (by decide)]; exact h52E) (by rw [hKF 51 (by decide)]; exact h51E) ⟨by rw [hKF 51 (by decide)]; exact fE.1, fun i hi => by rw [f53, if_neg (by omega)]; exact fE.2 i hi⟩ (by rw [hKF 51 (by decide)]; exact e51) (mf_F_K (hKF 0 (by decide)) (hKF 1 (by decide)) (hKF 2 (by decide)) FE) (fun i hi => ?_)
                rw [f53]
                by_cases ei : i = j
                · rw [if_pos (by omega), ei]
                · rw [if_neg (by omega)]
                  exact h53E i (by omega)
            have h2 := key2 _ 0 D rfl (by omega) hZD hokD h52D h51D fD rfl FD (fun i hi => by omega)
            have e5 : x5 = ((10 * q + 0 : Nat) : Int) := by omega
            rw [e5]
            exact h2
          have dec : ∀ C t0 Nc, ms_Z A C → hb_ok C → C 52 = B 52 → (∀ s, C 51 s = 0 ∨ C 51 s = 1) → hz_rI t0 → mj_f q p A C → mf_F C 4239 Nc D9 → Nc * C0 = D9 * V (fun s => B 52 (10 * q + s)) → ((C 51 (1 + p).toNat = 0 ∧ ∀ x, rb_pl n m x → ¬ rb_lt n x (fun s => B 52 (10 * q + s))) ∨ (C 51 (1 + p).toNat = 1 ∧ ∃ (kk : Nat → Int) (N : Int), (mf_F C (4231 + 2 * (1 + p)) N D9 ∧ N * C0 = D9 * V kk ∧ rb_pl n m kk ∧ ∀ s, s < n → C 53 (10 * q + s) = kk s) ∧ rb_lt n kk (fun s => B 52 (10 * q + s)) ∧ (∀ x, rb_pl n m x → rb_lt n x (fun s => B 52 (10 * q + s)) → cg_d (q : Int) * V x ≤ cg_d (q : Int) * V kk ∧ (rb_lt n x kk → cg_d (q : Int) * V x < cg_d (q : Int) * V kk)) ∧ t0 = hb_c Nc N)) → wp_judge_125 (lp_U z 3 0) C p (q : Int) t0 P Q := by
            intro C t0 Nc hZC hokC h52C h51C ht0 hfC hFc hNc hcase
            have none : C 51 (1 + p).toNat = 0 → wp_judge_156 (lp_U z 3 0) C p (q : Int) P Q := fun c0 => by
              rcases hcase with ⟨-, h⟩ | ⟨h, -⟩
              · exact keep C Nc hZC hokC h52C h51C hfC hFc hNc (fun x hx lt => absurd lt (h x hx))
              · omega
            have some : ¬ C 51 (1 + p).toNat = 0 → ∃ (kk : Nat → Int) (N : Int), (mf_F C (4231 + 2 * (1 + p)) N D9 ∧ N * C0 = D9 * V kk ∧ rb_pl n m kk ∧ ∀ s, s < n → C 53 (10 * q + s) = kk s) ∧ rb_lt n kk (fun s => B 52 (10 * q + s)) ∧ (∀ x, rb_pl n m x → rb_lt n x (fun s => B 52 (10 * q + s)) → cg_d (q : Int) * V x ≤ cg_d (q : Int) * V kk ∧ (rb_lt n x kk → cg_d (q : Int) * V x < cg_d (q : Int) * V kk)) ∧ t0 = hb_c Nc N := fun c0 => by
              rcases hcase with ⟨h, -⟩ | ⟨-, h⟩
              · exact absurd h c0
              · exact h
            have sgn : ∀ (x y : Int), (hb_c x y ≤ 0 → x ≤ y) ∧ (¬ hb_c x y ≤ 0 → y < x) ∧ (0 ≤ hb_c x y → y ≤ x) ∧ (¬ 0 ≤ hb_c x y → x < y) := fun x y => by
              unfold hb_c
              split
              · exact ⟨fun _ => by omega, fun h => by omega, fun h => by omega, fun _ => by omega⟩
              · split
                · exact ⟨fun _ => by omega, fun h => by omega, fun _ => by omega, fun h => by omega⟩
                · exact ⟨fun h => by omega, fun _ => by omega, fun _ => by omega, fun h => by omega⟩
            have stay : ¬ C 51 (1 + p).toNat = 0 → ((p = 2 ∧ t0 ≤ 0) ∨ (p = 1 ∧ 0 ≤ t0)) → wp_judge_201 (lp_U z 3 0) C p (q : Int) P Q := fun c0 why => by
              obtain ⟨kk, N, ⟨k1, k2, k3, k4⟩, k5, k6, k7⟩ := some c0
              have s9 := sgn Nc N
              rw [← k7] at s9
              have le : cg_d (q : Int) * V (fun s => B 52 (10 * q + s)) ≤ cg_d (q : Int) * V kk := by
                rcases hcg with ⟨e1, e2⟩ | ⟨e1, e2⟩
                · have q9 := (mj_cmp HC D9p k2 hNc).1 (s9.2.2.1 (by omega))
                  rw [e2]
                  omega
                · have q9 := (mj_cmp HC D9p hNc k2).1 (s9.1 (by omega))
                  rw [e2]
                  omega
              refine next C hZC hokC h52C h51C hfC ⟨by have := h51C (1 + p).toNat; omega, kk, ⟨N, k1, k2, k3, k4⟩, Or.inr k5, fun x hx hc => ?_⟩
              rcases hc with hc | hc
              · have ev : V x = V (fun s => B 52 (10 * q + s)) := HV x _ hc
                rw [ev]
                exact ⟨le, fun lt => absurd (rb_lt_trans k5 (rb_lt_congr hc (fun _ _ => rfl) lt)) (rb_lt_irr (fun _ _ => rfl))⟩
              · exact k6 x hx hc
            have take : ¬ C 51 (1 + p).toNat = 0 → ((p = 2 ∧ ¬ t0 ≤ 0) ∨ (p = 1 ∧ ¬ 0 ≤ t0)) → wp_judge_156 (lp_U z 3 0) C p (q : Int) P Q := fun c0 why => by
              obtain ⟨kk, N, ⟨k1, k2, k3, k4⟩, k5, k6, k7⟩ := some c0
              have s9 := sgn Nc N
              rw [← k7] at s9
              have lt9 : cg_d (q : Int) * V kk < cg_d (q : Int) * V (fun s => B 52 (10 * q + s)) := by
                rcases hcg with ⟨e1, e2⟩ | ⟨e1, e2⟩
                · have q9 := (mj_cmp HC D9p hNc k2).2 (s9.2.2.2 (by omega))
                  rw [e2]
                  omega
                · have q9 := (mj_cmp HC D9p k2 hNc).2 (s9.2.1 (by omega))
                  rw [e2]
                  omega
              exact keep C Nc hZC hokC h52C h51C hfC hFc hNc (fun x hx hc => Int.lt_of_le_of_lt (k6 x hx hc).1 lt9)
            refine ⟨⟨by omega, by omega⟩, by rcases h51C (1 + p).toNat with h | h <;> rw [h] <;> exact ⟨by decide, by decide⟩, fun c0 => none c0, fun c0 => ⟨hp, fun c1 => ⟨ht0, fun c2 => stay c0 (by omega), fun c2 => take c0 (by omega)⟩, fun c1 => ⟨ht0, fun c2 => stay c0 (by omega), fun c2 => take c0 (by omega)⟩⟩⟩
          have ex : ∀ ta tb : Int, (ta = 0 ∨ ta = 1) → (tb = 0 ∨ tb = 1) → ((p = 1 ∧ ta = 1 ∧ tb = 0) ∨ (p = 2 ∧ ta = 0 ∧ tb = 1)) → wp_judge_91 (lp_U z 3 0) B p (q : Int) ta tb P Q := by
            intro ta tb hta htb hpt
            obtain ⟨I9, hI9, hS9⟩ := HI _ plB
            have zz : ∀ k, 2 < k → k < 51 → B k = A k := fun k a b => hZ k a (by omega) (by omega) (by omega) (by omega) (by omega) (by omega)
            refine wz_expectAll (q := q) (C0 := C0) (I := I9) htb hta hgz hg (mg_G_Z hZ hG.1) (mg_D_Z hZ hG.2.1) (mg_W_Z hZ hG.2.2) hokB h52 (by omega) (mj_I_keep (zz 14 (by decide) (by decide)) (zz 19 (by decide) (by decide)) (zz 20 (by decide) (by decide)) (zz 21 (by decide) (by decide)) (zz 22 (by decide) (by decide)) (zz 23 (by decide) (by decide)) (zz 25 (by decide) (by decide)) (zz 49 (by decide) (by decide)) (zz 50 (by decide) (by decide)) hI9) (fun C Nc hX hokC hFc hNc => ?_)
            rw [zz 25 (by decide) (by decide), zz 50 (by decide) (by decide), ← hD9] at hFc hNc
            rw [zz 14 (by decide) (by decide), zz 21 (by decide) (by decide), hS9] at hNc
            have fC : mj_f q p A C := ⟨by rw [hX.1 51 (by decide)]; exact hfr.1, by rw [hX.1 53 (by decide)]; exact hfr.2⟩
            have FX : ∀ N, mf_F B (4231 + 2 * (1 + p)) N D9 → mf_F C (4231 + 2 * (1 + p)) N D9 := fun N h => mf_F_X hX (by omega) (by omega) (by omega) (by omega) hokB h
            have hUC := mj_U_keep FX (hX.1 51 (by decide)) (hX.1 53 (by decide)) hU
            have hZC : ms_Z A C := ms_Z_trans hZ (ms_Z_X hX)
            have h52C : C 52 = B 52 := hX.1 52 (by decide)
            have h51C : ∀ s, C 51 s = 0 ∨ C 51 s = 1 := by rw [hX.1 51 (by decide)]; exact h51
            refine ⟨⟨by omega, by omega⟩, by rcases h51C (1 + p).toNat with h | h <;> rw [h] <;> exact ⟨by decide, by decide⟩, fun c0 => dec C 0 Nc hZC hokC h52C h51C ⟨by decide, by decide⟩ fC hFc hNc (by
              rcases hUC with q9 | q9
              · exact Or.inl q9
              · have := q9.1; omega), fun c0 => ?_⟩
            obtain ⟨U1, kk, ⟨N, k1, k2, k3, k4⟩, U3, U4⟩ : C 51 (1 + p).toNat = 1 ∧ ∃ k : Nat → Int, mj_k q n m V C0 D9 p C k ∧ rb_lt n k (fun s => B 52 (10 * q + s)) ∧ ∀ x, rb_pl n m x → rb_lt n x (fun s => B 52 (10 * q + s)) → cg_d (q : Int) * V x ≤ cg_d (q : Int) * V k ∧ (rb_lt n x k → cg_d (q : Int) * V x < cg_d (q : Int) * V k) := by
              rcases hUC with q9 | q9
              · exact absurd q9.1 c0
              · exact q9
            refine wz_compareFractions (by omega) (by omega) (by omega) (by omega) hokC hFc k1 (fun r D hr hXD hokD er => dec D r Nc (ms_Z_trans hZC (ms_Z_X hXD)) hokD (by rw [hXD.1 52 (by decide)]; exact h52C) (by rw [hXD.1 51 (by decide)]; exact h51C) hr ⟨by rw [hXD.1 51 (by decide)]; exact fC.1, by rw [hXD.1 53 (by decide)]; exact fC.2⟩ (mf_F_X hXD (by decide) (by decide) (by decide) (by decide) hokC hFc) hNc (Or.inr ⟨by rw [hXD.1 51 (by decide)]; exact U1, kk, N, ⟨mf_F_X hXD (by omega) (by omega) (by omega) (by omega) hokC k1, k2, k3, by rw [hXD.1 53 (by decide)]; exact k4⟩, U3, U4, er⟩))
          exact ⟨hp, fun c1 => ⟨hp, fun c2 => by omega, fun c2 => ex 1 0 (Or.inr rfl) (Or.inl rfl) (by omega)⟩, fun c1 => ⟨hp, fun c2 => ex 0 1 (Or.inl rfl) (Or.inr rfl) (by omega), fun c2 => by omega⟩⟩
    have A51 : ∀ i, A26 51 i = if i = (1 + p).toNat then 0 else A 51 i := fun i => by
      rw [hK26 51 (by decide), hA24, lq_s_fun]
      rfl
    refine key _ A26 1 rfl (Or.inr rfl) hZ26 hok26 (fun s => ?_) (by rw [hK26 51 (by decide)]; exact h5124) (fun s s1 s2 => ?_) ⟨fun i hi => by rw [A51, if_neg hi], fun i hi => by rw [hK26 53 (by decide), hK24 53 (by decide)]⟩ (Or.inl ⟨rfl, Or.inl ⟨by rw [A51, if_pos rfl], fun x hx lt => ?_⟩⟩)
    rotate_right
    · obtain ⟨s, s1, s2, -⟩ := lt
      have q9 := (hx s s1).1
      have s2 : x s < A26 52 (10 * q + s) := s2
      rw [h26 (10 * q + s), if_pos (by omega)] at s2
      omega
    · rw [h26 s, hK24 52 (by decide)]
      split
      · omega
      · exact hI1.2.2.2.2.2.2.2.1 s
    · rw [h26 s, if_pos (by omega)]
      have := hS.2 (s - 10 * q) (by omega)
      have e : 10 * q + (s - 10 * q) = s := by omega
      rw [e] at this
      omega
  refine ⟨hp, fun c => yes (Or.inl c), fun c => ⟨hp, fun d => yes (Or.inr d), fun d => no 1 (by decide) (by decide) (Or.inl ⟨rfl, by omega⟩)⟩⟩
