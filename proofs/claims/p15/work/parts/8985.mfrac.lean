/-- nothing in common -/
noncomputable def mf_G (A : Nat → Nat → Int) (t : Int) : Prop := Nat.gcd (hb_v A t).natAbs (hb_v A (t + 1)).natAbs = 1
theorem mf_G_X {ws : Int → Prop} {A B : Nat → Nat → Int} {t : Int} (hX : hb_X ws A B) (t0 : 0 ≤ t) (t1 : t + 1 < 4250) (h1 : ¬ ws t) (h2 : ¬ ws (t + 1)) (hok : hb_ok A) (h : mf_G A t) : mf_G B t := by
  unfold mf_G
  rw [hb_X_v hX t0 (by omega) h1 (hok t t0 (by omega)), hb_X_v hX (by omega) t1 h2 (hok _ (by omega) t1)]
  exact h
theorem mf_G_K {A B : Nat → Nat → Int} {t : Int} (h0 : B 0 = A 0) (h1 : B 1 = A 1) (h2 : B 2 = A 2) (h : mf_G A t) : mf_G B t := by
  unfold mf_G hb_v hb_z hb_g at *
  rw [h0, h1, h2]
  exact h
/-- a fraction in least terms -/
noncomputable def mf_H (A : Nat → Nat → Int) (t N D : Int) : Prop := mf_F A t N D ∧ mf_G A t
theorem mf_H_L {A : Nat → Nat → Int} {t N D : Int} (h : mf_H A t N D) : nu_L (hb_v A t) (hb_v A (t + 1)) N D := ⟨h.1.2.1, h.1.2.2, h.2⟩
theorem mf_H_K {A B : Nat → Nat → Int} {t N D : Int} (h0 : B 0 = A 0) (h1 : B 1 = A 1) (h2 : B 2 = A 2) (h : mf_H A t N D) : mf_H B t N D := ⟨mf_F_K h0 h1 h2 h.1, mf_G_K h0 h1 h2 h.2⟩
theorem mf_H_X {ws : Int → Prop} {A B : Nat → Nat → Int} {t N D : Int} (hX : hb_X ws A B) (t0 : 0 ≤ t) (t1 : t + 1 < 4250) (h1 : ¬ ws t) (h2 : ¬ ws (t + 1)) (hok : hb_ok A) (h : mf_H A t N D) : mf_H B t N D := ⟨mf_F_X hX t0 t1 h1 h2 hok h.1, mf_G_X hX t0 t1 h1 h2 hok h.2⟩
theorem wy_settleF {z : Nat → Int} {A : Nat → Nat → Int} {t N D : Int} {Q : (Nat → Nat → Int) → Prop} (t0 : 4227 ≤ t) (t1 : t + 1 < 4243) (hok : hb_ok A) (hb : 0 < hb_v A 4244) (hD : 0 < D) (hD2 : D < 16777216 ^ 130) (hN : (N.natAbs : Int) < 16777216 ^ 130) (he : hb_v A 4243 * D = N * hb_v A 4244)
    (hQ : ∀ B, hb_X (fun x => x = t ∨ x = t + 1 ∨ 4243 ≤ x) A B → hb_ok B → mf_H B t N D → Q B) : wp_settle z A t Q := by
  have W3 := hok 4243 (by decide) (by decide)
  have W4 := hok 4244 (by decide) (by decide)
  have a3 := hb_z_abs W3
  have a4 := hb_z_abs W4
  have n3 : (hb_z A 4243).toNat = (hb_v A 4243).natAbs := by omega
  have n4 : (hb_z A 4244).toNat = (hb_v A 4244).natAbs := by omega
  have hnat : (hb_v A 4243).natAbs * D.natAbs = N.natAbs * (hb_v A 4244).natAbs := by rw [← Int.natAbs_mul, ← Int.natAbs_mul, he]
  obtain ⟨q1, q2⟩ := mf_red (by omega) (by omega) hnat
  obtain ⟨G, hG⟩ : ∃ G : Nat, G = Nat.gcd (hb_z A 4243).toNat (hb_z A 4244).toNat := ⟨_, rfl⟩
  have hG' : Nat.gcd (hb_v A 4243).natAbs (hb_v A 4244).natAbs = G := by rw [hG, n3, n4]
  rw [hG'] at q1 q2
  have Gp : 0 < G := by rw [← hG']; exact Nat.gcd_pos_of_pos_right _ (by omega)
  have e3 : hb_z A 4243 / (G : Int) = (((hb_v A 4243).natAbs / G : Nat) : Int) := by rw [a3, Int.natCast_ediv]
  have e4 : hb_z A 4244 / (G : Int) = (((hb_v A 4244).natAbs / G : Nat) : Int) := by rw [a4, Int.natCast_ediv]
  refine wq_settle t0 t1 hok hb (by rw [← hG, e3]; omega) (by rw [← hG, e4]; omega) (fun B hX hokB h1 h2 => hQ B hX hokB ?_)
  rw [← hG] at h1 h2
  have d3 : (G : Int) ∣ hb_v A 4243 := by
    have := Nat.gcd_dvd_left (hb_v A 4243).natAbs (hb_v A 4244).natAbs
    rw [hG'] at this
    exact Int.ofNat_dvd_left.mpr this
  have d4 : (G : Int) ∣ hb_v A 4244 := by
    have := Nat.gcd_dvd_right (hb_v A 4243).natAbs (hb_v A 4244).natAbs
    rw [hG'] at this
    exact Int.ofNat_dvd_left.mpr this
  obtain ⟨x, hx⟩ := d3
  obtain ⟨y, hy⟩ := d4
  have ex : hb_v B t = x := by rw [h1, hx, Int.mul_ediv_cancel_left _ (by omega)]
  have ey : hb_v B (t + 1) = y := by rw [h2, hy, Int.mul_ediv_cancel_left _ (by omega)]
  have hyp : 0 < y := by
    apply Classical.byContradiction
    intro hc
    have : 0 ≤ (G : Int) * (-y) := Int.mul_nonneg (by omega) (by omega)
    rw [Int.mul_neg] at this
    omega
  have hco := Nat.coprime_div_gcd_div_gcd (m := (hb_v A 4243).natAbs) (n := (hb_v A 4244).natAbs) (by rw [hG']; exact Gp)
  rw [hG'] at hco
  have nx : (hb_v A 4243).natAbs / G = x.natAbs := by rw [hx, Int.natAbs_mul, Int.natAbs_natCast, Nat.mul_div_cancel_left _ Gp]
  have ny : (hb_v A 4244).natAbs / G = y.natAbs := by rw [hy, Int.natAbs_mul, Int.natAbs_natCast, Nat.mul_div_cancel_left _ Gp]
  rw [nx, ny] at hco
  refine ⟨⟨hD, by rw [ey]; exact hyp, ?_⟩, by unfold mf_G; rw [ex, ey]; exact hco⟩
  rw [ex, ey]
  rw [hx, hy] at he
  refine Int.eq_of_mul_eq_mul_left (show (G : Int) ≠ 0 by omega) ?_
  have e1 : (G : Int) * (x * D) = (G : Int) * x * D := (Int.mul_assoc _ _ _).symm
  have e2 : (G : Int) * (N * y) = N * ((G : Int) * y) := Int.mul_left_comm _ _ _
  rw [e1, e2]
  exact he
theorem wy_setFraction {z : Nat → Int} {A : Nat → Nat → Int} {t a b : Int} {Q : (Nat → Nat → Int) → Prop} (t0 : 4227 ≤ t) (t1 : t + 1 < 4243) (hok : hb_ok A) (ha : -1000000000000 ≤ a ∧ a ≤ 1000000000000) (hb : 1 ≤ b ∧ b ≤ 1000000000000)
    (hQ : ∀ B, hb_X (fun x => x = t ∨ x = t + 1 ∨ 4243 ≤ x) A B → hb_ok B → mf_H B t a b → Q B) : wp_setFraction z A t a b Q := by
  have hbig : (1000000000000 : Int) < 16777216 ^ 130 := by decide +kernel
  refine wq_bigSet (by decide) (by decide) (by omega) (fun B hXB hWB hvB _ => ?_)
  have hokB := hb_ok_one hok hXB hWB
  refine wq_bigSet (by decide) (by decide) (by omega) (fun C hXC hWC hvC _ => ?_)
  have hokC := hb_ok_one hokB hXC hWC
  have e3 : hb_v C 4243 = a := by rw [hb_X_v hXC (by decide) (by decide) (by decide) hWB, hvB]
  refine wy_settleF t0 t1 hokC (by rw [hvC]; omega) (show 0 < b by omega) (by omega) (show (a.natAbs : Int) < 16777216 ^ 130 by omega) (by rw [e3, hvC]) (fun D hX hokD hF => hQ D ?_ hokD hF)
  exact hb_X_trans (hb_X_trans (hb_X_mono (fun u e => by omega) hXB) (hb_X_mono (fun u e => by omega) hXC)) hX
theorem wy_addFraction {z : Nat → Int} {A : Nat → Nat → Int} {N D N2 D2 U : Int} {Q : (Nat → Nat → Int) → Prop} (hok : hb_ok A) (hF : mf_F A 4239 N D) (hF2 : mf_F A 4241 N2 D2) (hU : D = D2 * U) (hD2 : D < 16777216 ^ 130) (hN : ((N + N2 * U).natAbs : Int) < 16777216 ^ 130)
    (hQ : ∀ B, hb_X (fun x => x = 4239 ∨ x = 4240 ∨ 4243 ≤ x) A B → hb_ok B → mf_H B 4239 (N + N2 * U) D → Q B) : wp_addFraction z A 4239 4241 Q := by
  have r3 : hb_r 4243 = 270 := by decide
  have r4 : hb_r 4244 = 270 := by decide
  have r5 : hb_r 4245 = 270 := by decide
  have plen : ∀ {E F : Nat → Nat → Int} {w a b : Int}, hb_ok E → 0 ≤ a → a < 4243 → 0 ≤ b → b < 4243 → hb_W F w → hb_z F w = hb_z E a * hb_z E b → F 1 w.toNat ≤ 260 := by
    intro E F w a b hE a0 a1 b0 b1 hW hz
    have l1 := hb_len130 hE a0 a1
    have l2 := hb_len130 hE b0 b1
    have h1 := hb_z_lt (hb_W_P (hE a a0 (by omega)))
    have h2 := hb_z_lt (hb_W_P (hE b b0 (by omega)))
    have n1 := hb_z_nonneg (hb_W_P (hE a a0 (by omega)))
    have n2 := hb_z_nonneg (hb_W_P (hE b b0 (by omega)))
    have p1 : (16777216 : Int) ^ (E 1 a.toNat).toNat ≤ 16777216 ^ 130 := hb_pow_le (by omega)
    have p2 : (16777216 : Int) ^ (E 1 b.toNat).toNat ≤ 16777216 ^ 130 := hb_pow_le (by omega)
    have h3 : hb_z E a * hb_z E b < 16777216 ^ 130 * 16777216 ^ 130 := Int.mul_lt_mul' (by omega) (by omega) n2 (hb_pow_pos 130)
    rw [← Int.pow_add, ← hz] at h3
    exact hb_len_le hW h3
  have la := hb_len130 hok (u := 4239) (by decide) (by decide)
  have lb := hb_len130 hok (u := 4241 + 1) (by decide) (by decide)
  refine wq_bigProduct (by decide) (by decide) (by decide) (by decide) (by decide) (by decide) (by decide) (by decide) (hok _ (by decide) (by decide)) (hok _ (by decide) (by decide)) (by omega) (fun B hXB hWB hvB hzB => ?_)
  have hokB := hb_ok_one hok hXB hWB
  have lc := hb_len130 hokB (u := 4241) (by decide) (by decide)
  have ld := hb_len130 hokB (u := 4239 + 1) (by decide) (by decide)
  refine wq_bigProduct (by decide) (by decide) (by decide) (by decide) (by decide) (by decide) (by decide) (by decide) (hokB _ (by decide) (by decide)) (hokB _ (by decide) (by decide)) (by omega) (fun C hXC hWC hvC hzC => ?_)
  have hokC := hb_ok_one hokB hXC hWC
  have len3 : C 1 (4243 : Int).toNat ≤ 260 := by
    rw [(hXC.2 4243 (by decide) (by decide) (by decide)).1]
    exact plen hok (by decide) (by decide) (by decide) (by decide) hWB hzB
  have len5 : C 1 (4245 : Int).toNat ≤ 260 := plen hokB (by decide) (by decide) (by decide) (by decide) hWC hzC
  refine wq_bigAdd (by decide) (by decide) (by decide) (by decide) (by decide) (hokC _ (by decide) (by decide)) hWC (by omega) (by omega) (Or.inl rfl) (fun E hXE hWE hvE => ?_)
  have hokE := hb_ok_one hokC hXE hWE
  rw [if_pos rfl] at hvE
  have le' := hb_len130 hokE (u := 4239 + 1) (by decide) (by decide)
  have lf := hb_len130 hokE (u := 4241 + 1) (by decide) (by decide)
  refine wq_bigProduct (by decide) (by decide) (by decide) (by decide) (by decide) (by decide) (by decide) (by decide) (hokE _ (by decide) (by decide)) (hokE _ (by decide) (by decide)) (by omega) (fun G hXG hWG hvG hzG => ?_)
  have hokG := hb_ok_one hokE hXG hWG
  have sB : ∀ u : Int, 0 ≤ u → u < 4243 → hb_v B u = hb_v A u := fun u u0 u1 => hb_X_v hXB u0 (by omega) (by omega) (hok u u0 (by omega))
  have sE : ∀ u : Int, 0 ≤ u → u < 4243 → hb_v E u = hb_v A u := fun u u0 u1 => by
    rw [hb_X_v hXE u0 (by omega) (by omega) (hokC u u0 (by omega)), hb_X_v hXC u0 (by omega) (by omega) (hokB u u0 (by omega)), sB u u0 u1]
  have e3 : hb_v G 4243 = hb_v A 4239 * hb_v A 4242 + hb_v A 4241 * hb_v A 4240 := by
    rw [hb_X_v hXG (by decide) (by decide) (by decide) hWE, hvE, hb_X_v hXC (by decide) (by decide) (by decide) hWB, hvB, hvC]
    have q1 := sB 4241 (by decide) (by decide)
    have q2 := sB 4240 (by decide) (by decide)
    show hb_v A 4239 * hb_v A 4242 + hb_v B 4241 * hb_v B 4240 = _
    rw [q1, q2]
  have e4 : hb_v G 4244 = hb_v A 4240 * hb_v A 4242 := by
    rw [hvG]
    show hb_v E 4240 * hb_v E 4242 = _
    rw [sE 4240 (by decide) (by decide), sE 4242 (by decide) (by decide)]
  obtain ⟨f1, f2, f3⟩ := hF
  obtain ⟨g1, g2, g3⟩ := hF2
  have f2' : 0 < hb_v A 4240 := f2
  have g2' : 0 < hb_v A 4242 := g2
  have f3' : hb_v A 4239 * D = N * hb_v A 4240 := f3
  have g3' : hb_v A 4241 * D2 = N2 * hb_v A 4242 := g3
  refine wy_settleF (by decide) (by decide) hokG (by rw [e4]; exact Int.mul_pos f2' g2') f1 hD2 hN (by
    rw [e3, e4]
    have h1 : hb_v A 4239 * hb_v A 4242 * D = N * (hb_v A 4240 * hb_v A 4242) := by
      have : hb_v A 4239 * hb_v A 4242 * D = (hb_v A 4239 * D) * hb_v A 4242 := by grind
      rw [this, f3']
      grind
    have h2 : hb_v A 4241 * hb_v A 4240 * D = N2 * U * (hb_v A 4240 * hb_v A 4242) := by
      have : hb_v A 4241 * hb_v A 4240 * D = (hb_v A 4241 * D2) * (hb_v A 4240 * U) := by rw [hU]; grind
      rw [this, g3']
      grind
    rw [Int.add_mul, h1, h2, Int.add_mul]) (fun H hX hokH hFH => hQ H ?_ hokH hFH)
  exact hb_X_trans (hb_X_trans (hb_X_trans (hb_X_trans (hb_X_mono (fun u e => by omega) hXB) (hb_X_mono (fun u e => by omega) hXC)) (hb_X_mono (fun u e => by omega) hXE)) (hb_X_mono (fun u e => by omega) hXG)) (hb_X_mono (fun u e => by omega) hX)
theorem my_r2 {q : Nat} {pa pb a : Int} (hq : (q = 0 ∧ pa = 1 ∧ pb = 0) ∨ (q = 1 ∧ pa = 0 ∧ pb = 1) ∨ (q = 2 ∧ pa = 0 ∧ pb = 0)) (h0 : 0 ≤ a) (h1 : a < 20) : (10 ≤ a → pb = 0 → ¬ a / 10 = (q : Int)) ∧ (10 ≤ a → ¬ pb = 0 → a / 10 = (q : Int)) ∧ (¬ 10 ≤ a → pa = 0 → ¬ a / 10 = (q : Int)) ∧ (¬ 10 ≤ a → ¬ pa = 0 → a / 10 = (q : Int)) := by
  refine ⟨fun c1 c2 => ?_, fun c1 c2 => ?_, fun c1 c2 => ?_, fun c1 c2 => ?_⟩ <;> omega
set_option maxHeartbeats 8000000 in
theorem wy_expectAll {q : Nat} {C0 : Int} {I : Nat → Nat → Int} {z : Nat → Int} {A : Nat → Nat → Int} {pa pb : Int} {g : Nat} {Q : (Nat → Nat → Int) → Prop} (hpa : pa = 0 ∨ pa = 1) (hpb : pb = 0 ∨ pb = 1) (hg : z 32 = (g : Int)) (hg2 : g < 2) (hG : mg_G A g) (hD : mg_D A g) (hWy : mg_W A) (hok : hb_ok A) (hpl : ∀ s, 0 ≤ A 52 s ∧ A 52 s ≤ 100) (hq : (q = 0 ∧ pa = 1 ∧ pb = 0) ∨ (q = 1 ∧ pa = 0 ∧ pb = 1) ∨ (q = 2 ∧ pa = 0 ∧ pb = 0)) (hI : mj_I A g q C0 (fun s => A 52 (10 * q + s)) I)
    (hQ : ∀ B N, hb_X (fun x => 4239 ≤ x) A B → hb_ok B → mf_H B 4239 N (A 25 g * mf_P (A 50) (fun _ => false) 80) → N * C0 = (A 25 g * mf_P (A 50) (fun _ => false) 80) * cS (fun e => I e (A 21 (400 * g + e)).toNat) (A 14 g).toNat → Q B) : wp_expectAll z A pa pb Q := by
  obtain ⟨hE, -, -, -, -, hcm⟩ := hG
  obtain ⟨⟨n0, n1⟩, hE2⟩ := hE
  have ra : hz_rI pa := by rcases hpa with h | h <;> rw [h] <;> exact ⟨by decide, by decide⟩
  have rb : hz_rI pb := by rcases hpb with h | h <;> rw [h] <;> exact ⟨by decide, by decide⟩
  have hr2 := fun (a : Int) (h0 : 0 ≤ a) (h1 : a < 20) => my_r2 hq h0 h1
  clear hq hpa hpb
  have eg : (z 32).toNat = g := by omega
  have hb : ∀ i, i < 80 → 1 ≤ A 50 i ∧ A 50 i ≤ 9999 := fun i hi => (hWy i hi).2
  obtain ⟨PP, hPP⟩ : ∃ x : Int, x = mf_P (A 50) (fun _ => false) 80 := ⟨_, rfl⟩
  have hPr := mf_P_range (A 50) (fun _ => false) 80 hb
  rw [← hPP] at hPr
  rw [← hPP] at hQ
  obtain ⟨DD, hDD⟩ : ∃ x : Int, x = A 25 g * PP := ⟨_, rfl⟩
  rw [← hDD] at hQ
  have hDD1 : PP ≤ DD ∧ DD ≤ 1000000000 * PP := by
    rw [hDD]
    have k1 : 1 * PP ≤ A 25 g * PP := Int.mul_le_mul_of_nonneg_right hcm.1 (by omega)
    have k2 : A 25 g * PP ≤ 1000000000 * PP := Int.mul_le_mul_of_nonneg_right (by omega) (by omega)
    omega
  have hbig := mf_big hPr.1 hPr.2
  refine wy_setFraction (by decide) (by decide) hok (by omega) (by omega) (fun A21 hX21 hok21 hF21 x3 hx3 => ?_)
  intro P hP
  have key : ∀ (k e : Nat) (B : Nat → Nat → Int) (N : Int), (A 14 g).toNat - e = k → (e : Int) ≤ A 14 g → hb_X (fun x => 4239 ≤ x) A B → hb_ok B → mf_H B 4239 N DD → (N.natAbs : Int) ≤ (e : Int) * (1000000000 * DD) → N * C0 = DD * cS (fun e => I e (A 21 (400 * g + e)).toNat) e → P B ((400 * g + e : Nat) : Int) := by
    intro k
    induction k with
    | zero =>
      intro e B N hk he hX hokB hF hN hNC
      have e14 : B 14 = A 14 := hX.1 14 (by decide)
      refine hP B _ ⟨⟨by omega, by omega⟩, ⟨by omega, by omega⟩, by rw [eg, e14]; exact ⟨by omega, by omega⟩, fun _ => hQ B N hX hokB hF (by rw [hNC, show (A 14 g).toNat = e by omega]), fun c => by rw [eg, e14] at c; omega⟩
    | succ k ih =>
      intro e B N hk he hX hokB hF hN hNC
      have e14 : B 14 = A 14 := hX.1 14 (by decide)
      have e19 : B 19 = A 19 := hX.1 19 (by decide)
      have e25 : B 25 = A 25 := hX.1 25 (by decide)
      obtain ⟨⟨f0, f1, f2⟩, hwt, hw⟩ := hE2 e (by omega)
      obtain ⟨f, hf⟩ : ∃ f : Nat, (A 20 (400 * g + e)).toNat = f := ⟨_, rfl⟩
      obtain ⟨l, hl⟩ : ∃ l : Nat, (A 21 (400 * g + e)).toNat = l := ⟨_, rfl⟩
      have ef : A 20 (400 * g + e) = (f : Int) := by omega
      have el : A 21 (400 * g + e) = (l : Int) := by omega
      have hdis := hD.2 e (by omega)
      obtain ⟨hI0, hIj⟩ := hI e (by omega)
      rw [hf, el] at hIj
      rw [ef, el] at hw hdis
      have et : (((400 * g + e : Nat) : Int)).toNat = 400 * g + e := by omega
      refine hP B _ ⟨⟨by omega, by omega⟩, ⟨by omega, by omega⟩, by rw [eg, e14]; exact ⟨by omega, by omega⟩, fun c => by rw [eg, e14] at c; omega, fun c => ⟨⟨by omega, by omega⟩, ⟨by omega, by omega⟩, ?_⟩⟩
      rw [et, eg, e19, e25]
      refine wq_setFraction (by decide) (by decide) hokB (by omega) (by omega) (fun C hXC hokC hFC => ⟨⟨by omega, by omega⟩, fun x4 hx4 => ?_⟩)
      have hXC' : hb_X (fun x => 4239 ≤ x) A C := hb_X_trans hX (hb_X_mono (fun u e => by omega) hXC)
      rw [hXC'.1 20 (by decide), ef] at hx4
      have hF1 : mf_F C 4239 N DD := mf_F_X hXC (by decide) (by decide) (by decide) (by decide) hokB hF.1
      intro P2 hP2
      have key2 : ∀ (k2 j : Nat) (E : Nat → Nat → Int) (Nt Dt : Int) (u : Nat → Bool), l - j = k2 → j ≤ l → hb_X (fun x => 4239 ≤ x) A E → hb_ok E → mf_F E 4239 N DD → mf_F E 4241 Nt Dt → Dt * mf_P (A 50) u 80 = DD → (Nt.natAbs : Int) ≤ 1000000000 * Dt → (∀ i, u i = true → ∃ q, q < j ∧ (i / 4 : Nat) = (A 22 (f + q)).toNat) → Nt * C0 = Dt * I e j → P2 E ((f + j : Nat) : Int) := by
        intro k2
        induction k2 with
        | zero =>
          intro j E Nt Dt u hk2 hj hXE hokE hFs hFt hU hNt hu hNtC
          have ej : j = l := by omega
          subst ej
          have e20 : E 20 = A 20 := hXE.1 20 (by decide)
          have e21 : E 21 = A 21 := hXE.1 21 (by decide)
          have hpu := mf_P_range (A 50) u 80 hb
          have hNU : ((N + Nt * mf_P (A 50) u 80).natAbs : Int) ≤ ((e + 1 : Nat) : Int) * (1000000000 * DD) := by
            have k1 : ((Nt * mf_P (A 50) u 80).natAbs : Int) ≤ 1000000000 * DD := by
              rw [← hU]
              exact mf_abs_mul hNt (by omega) (Int.le_refl _) hFt.1 (by decide)
            have k3 : ((e + 1 : Nat) : Int) * (1000000000 * DD) = (e : Int) * (1000000000 * DD) + 1000000000 * DD := by
              rw [show ((e + 1 : Nat) : Int) = (e : Int) + 1 by omega, Int.add_mul]
              omega
            omega
          have h400 : ((e + 1 : Nat) : Int) * (1000000000 * DD) ≤ 400 * (1000000000 * DD) := Int.mul_le_mul_of_nonneg_right (by omega) (by omega)
          refine hP2 E _ ⟨⟨by omega, by omega⟩, ⟨by omega, by omega⟩, ⟨by omega, by omega⟩, by rw [et, e20, e21, ef, el]; exact ⟨by omega, by omega⟩, fun _ => ?_, fun c => by rw [et, e20, e21, ef, el] at c; omega⟩
          refine wy_addFraction hokE hFs hFt hU.symm (by omega) (by omega) (fun F hXF hokF hFF x3' hx3' => ?_)
          have e3 : x3' = ((400 * g + (e + 1) : Nat) : Int) := by omega
          rw [e3]
          exact ih (e + 1) F _ (by omega) (by omega) (hb_X_trans hXE (hb_X_mono (fun u e => by omega) hXF)) hokF hFF hNU (by
            show _ = DD * (cS (fun e => I e (A 21 (400 * g + e)).toNat) e + I e (A 21 (400 * g + e)).toNat)
            rw [hl]
            exact mj_r0 hU hNC hNtC)
        | succ k2 ih2 =>
          intro j E Nt Dt u hk2 hj hXE hokE hFs hFt hU hNt hu hNtC
          have e20 : E 20 = A 20 := hXE.1 20 (by decide)
          have e21 : E 21 = A 21 := hXE.1 21 (by decide)
          have e22 : E 22 = A 22 := hXE.1 22 (by decide)
          have e23 : E 23 = A 23 := hXE.1 23 (by decide)
          have e49 : E 49 = A 49 := hXE.1 49 (by decide)
          have e50 : E 50 = A 50 := hXE.1 50 (by decide)
          have e52 : E 52 = A 52 := hXE.1 52 (by decide)
          obtain ⟨w0, w1, w2, w3⟩ := hw (f + j) (by omega) (by omega)
          have ew : (((f + j : Nat) : Int)).toNat = f + j := by omega
          have hDt := hFt.1
          have hpu := mf_P_range (A 50) u 80 hb
          have hDtD : Dt ≤ DD := by
            rw [← hU]
            have := Int.mul_le_mul_of_nonneg_left hpu.1 (show 0 ≤ Dt by omega)
            omega
          -- one set's factor
          have next : ∀ (F : Nat → Nat → Int) (Nt' Dt' : Int) (u' : Nat → Bool), hb_X (fun x => x = 4241 ∨ x = 4242 ∨ 4243 ≤ x) E F → hb_ok F → mf_F F 4241 Nt' Dt' → Dt' * mf_P (A 50) u' 80 = DD → (Nt'.natAbs : Int) ≤ 1000000000 * Dt' → (∀ i, u' i = true → ∃ q, q < j + 1 ∧ (i / 4 : Nat) = (A 22 (f + q)).toNat) → Nt' * C0 = Dt' * I e (j + 1) → wp_expectAll_185 z F pa pb ((400 * g + e : Nat) : Int) ((f + j : Nat) : Int) P P2 Q := by
            intro F Nt' Dt' u' hXF hokF hFF hU' hN' hu' hNC' x hx
            have ex : x = ((f + (j + 1) : Nat) : Int) := by omega
            rw [ex]
            exact ih2 (j + 1) F Nt' Dt' u' (by omega) (by omega) (hb_X_trans hXE (hb_X_mono (fun u e => by omega) hXF)) hokF (mf_F_X hXF (by decide) (by decide) (by decide) (by decide) hokE hFs) hFF hU' hN' hu' hNC'
          obtain ⟨hIw, hIp⟩ := hIj j (by omega)
          have way : (¬ A 22 (f + j) / 10 = (q : Int)) → wp_expectAll_152 z E pa pb ((400 * g + e : Nat) : Int) ((f + j : Nat) : Int) (A 22 (f + j)) (A 23 (f + j)) P P2 Q := by
            intro notq
            have hIw := hIw notq
            obtain ⟨i0, hi0⟩ : ∃ i : Nat, (4 * A 22 (f + j) + A 23 (f + j)).toNat = i := ⟨_, rfl⟩
            have hi80 : i0 < 80 := by omega
            have hui : u i0 = false := by
              cases hc : u i0 with
              | false => rfl
              | true =>
                obtain ⟨q, hq, hq2⟩ := hu i0 hc
                exfalso
                have h1 := hw (f + q) (by omega) (by omega)
                have h2 := hdis (f + q) (f + j) (by omega) (by omega) (by omega)
                omega
            obtain ⟨wy1, wy2⟩ := hWy i0 hi80
            have huse := mf_P_use (A 50) u 80 i0 hi80 hui
            have hpu' := mf_P_range (A 50) (lp_U u i0 true) 80 hb
            have hU' : Dt * A 50 i0 * mf_P (A 50) (lp_U u i0 true) 80 = DD := by
              rw [← hU, huse]
              exact Int.mul_assoc _ _ _
            have hDb : Dt * A 50 i0 ≤ DD := by
              rw [← hU']
              have := Int.mul_le_mul_of_nonneg_left hpu'.1 (show 0 ≤ Dt * A 50 i0 from Int.mul_nonneg (by omega) (by omega))
              omega
            have hNa := mf_abs_mul (c := 1000000000) hNt wy1.1 wy1.2 hDt (by decide)
            refine ⟨⟨by omega, by omega⟩, ?_, ⟨by omega, by omega⟩, ?_, ?_⟩
            · rw [hi0, e49]
              exact ⟨by omega, by omega⟩
            · rw [hi0, e50]
              exact ⟨by omega, by omega⟩
            · rw [hi0, e49, e50]
              refine wq_times (by decide) (by decide) hokE (by omega) (by omega) hFt (by omega) (by omega) (fun F hXF hokF hFF => next F _ _ (lp_U u i0 true) hXF hokF hFF hU' hNa (fun i hi => ?_) (mj_r1 hNtC (by rw [hi0] at hIw; exact hIw)))
              by_cases ei : i = i0
              · exact ⟨j, by omega, by omega⟩
              · rw [lp_U_other ei] at hi
                obtain ⟨q, hq, hq2⟩ := hu i hi
                exact ⟨q, by omega, hq2⟩
          have plan : A 22 (f + j) / 10 = (q : Int) → wp_expectAll_124 z E pa pb ((400 * g + e : Nat) : Int) ((f + j : Nat) : Int) (A 22 (f + j)) (A 23 (f + j)) P P2 Q := by
            intro isq
            have hIp := hIp isq
            have hp := hpl (A 22 (f + j)).toNat
            have eix : 10 * q + (A 22 (f + j) - 10 * (q : Int)).toNat = (A 22 (f + j)).toNat := by omega
            have hIn : ¬ A 52 (A 22 (f + j)).toNat = A 23 (f + j) → I e (j + 1) = 0 * I e j := fun c => by
              rw [Int.zero_mul]
              exact hIp.trans (if_neg (show ¬ A 52 (10 * q + (A 22 (f + j) - 10 * (q : Int)).toNat) = A 23 (f + j) by rw [eix]; exact c))
            have hIy : A 52 (A 22 (f + j)).toNat = A 23 (f + j) → I e (j + 1) = 1 * I e j := fun c => by
              rw [Int.one_mul]
              exact hIp.trans (if_pos (show A 52 (10 * q + (A 22 (f + j) - 10 * (q : Int)).toNat) = A 23 (f + j) by rw [eix]; exact c))
            have fac : ∀ v : Int, (v = 0 ∨ v = 1) → I e (j + 1) = v * I e j → wp_expectAll_145 z E pa pb ((400 * g + e : Nat) : Int) ((f + j : Nat) : Int) v 4241 P P2 Q := by
              intro v hv hvI
              have hNa := mf_abs_mul (a := v) (b := 1) (c := 1000000000) hNt (by omega) (by omega) hDt (by decide)
              have hD1 : Dt * 1 = Dt := Int.mul_one _
              refine wq_times (by decide) (by decide) hokE (by omega) (by omega) hFt (by omega) (by omega) (fun F hXF hokF hFF => next F _ _ u hXF hokF hFF (by rw [hD1]; exact hU) hNa (fun i hi => ?_) (mj_r1 hNtC (by rw [Int.one_mul]; exact hvI)))
              obtain ⟨q, hq, hq2⟩ := hu i hi
              exact ⟨q, by omega, hq2⟩
            refine ⟨⟨w0, w1⟩, by rw [e52]; exact ⟨by omega, by omega⟩, ⟨by omega, by omega⟩, fun c => fac 0 (Or.inl rfl) (hIn (by rw [e52] at c; exact c)), fun c => fac 1 (Or.inr rfl) (hIy (by rw [e52] at c; exact c))⟩
          refine hP2 E _ ⟨⟨by omega, by omega⟩, ⟨by omega, by omega⟩, ⟨by omega, by omega⟩, by rw [et, e20, e21, ef, el]; exact ⟨by omega, by omega⟩, fun c => by rw [et, e20, e21, ef, el] at c; omega, fun c => ⟨⟨by omega, by omega⟩, fun x5 hx5 => ⟨⟨by omega, by omega⟩, fun x6 hx6 => ?_⟩⟩⟩
          rw [ew, e22] at hx5
          rw [ew, e23] at hx6
          rw [hx5, hx6]
          obtain ⟨k1, k2, k3, k4⟩ := hr2 _ w0 w1
          exact ⟨mj_r3 w0 w1, fun c1 => ⟨rb, fun c2 => way (k1 c1 c2), fun c2 => plan (k2 c1 c2)⟩, fun c1 => ⟨ra, fun c2 => way (k3 c1 c2), fun c2 => plan (k4 c1 c2)⟩⟩
      rw [hx4]
      refine key2 _ 0 C _ _ (fun _ => false) rfl (by omega) hXC' hokC hF1 hFC (by rw [← hPP, hDD]) ?_ (fun i hi => by simp at hi) hI0
      have k1 : 1000000000 * 1 ≤ 1000000000 * A 25 g := by omega
      omega
  have h := key _ 0 A21 0 rfl (by omega) (hb_X_mono (fun u e => by omega) hX21) hok21 ⟨by
    refine ⟨by omega, hF21.1.2.1, ?_⟩
    have h3 := hF21.1.2.2
    rw [Int.mul_one, Int.zero_mul] at h3
    rw [h3, Int.zero_mul, Int.zero_mul], hF21.2⟩ (by simp) (by show 0 * C0 = DD * 0; rw [Int.zero_mul, Int.mul_zero])
  have e : x3 = ((400 * g + 0 : Nat) : Int) := by omega
  rw [e]
  exact h
theorem wy_keep {N D9 : Int} {z : Nat → Int} {A : Nat → Nat → Int} {w : Int} {Q : (Nat → Nat → Int) → Prop} (w0 : 0 ≤ w) (w1 : w < 4) (hok : hb_ok A) (hth : ∀ s, A 51 s = 0 ∨ A 51 s = 1) (hF : mf_H A 4239 N D9) (hQ : ∀ B, (∀ k, 2 < k → k ≠ 51 → B k = A k) → hb_ok B → (∀ s, B 51 s = 0 ∨ B 51 s = 1) → mf_H B (4231 + 2 * w) N D9 → (∀ u : Int, 0 ≤ u → u < 4239 → u ≠ 4231 + 2 * w → u ≠ 4231 + 2 * w + 1 → hb_v B u = hb_v A u) → (∀ s, B 51 s = if s = w.toNat then 1 else A 51 s) → Q B) : wp_keep z A w Q := by
  have r1 : ∀ y : Int, y < 4243 → hb_r y = 130 := fun y h => by unfold hb_r; rw [if_neg (by omega)]
  refine wq_bigCopy (by omega) (by omega) (by decide) (by decide) (by omega) (hok _ (by decide) (by decide)) (by rw [r1 _ (by omega)]; exact hb_len130 hok (by decide) (by decide)) (fun B hXB hWB zB sB _ => ?_)
  have hokB := hb_ok_one hok hXB hWB
  refine wq_bigCopy (by omega) (by omega) (by decide) (by decide) (by omega) (hokB _ (by decide) (by decide)) (by rw [r1 _ (by omega)]; exact hb_len130 hokB (by decide) (by decide)) (fun C hXC hWC zC sC _ => ?_)
  have hokC := hb_ok_one hokB hXC hWC
  refine ⟨⟨w0, w1⟩, fun D hD => ?_⟩
  have hK : lq_K 51 C D := by rw [hD]; exact lq_K_s _ _ _ _
  have v1 : hb_v B (4231 + 2 * w) = hb_v A 4239 := hb_copy_v zB sB
  have v2 : hb_v C (4231 + 2 * w + 1) = hb_v B 4240 := hb_copy_v zC sC
  have v3 : hb_v C (4231 + 2 * w) = hb_v B (4231 + 2 * w) := hb_X_v hXC (by omega) (by omega) (by omega) hWB
  have v4 : hb_v B 4240 = hb_v A 4240 := hb_X_v hXB (by decide) (by decide) (by omega) (hok _ (by decide) (by decide))
  have FC : mf_H C (4231 + 2 * w) N D9 := by
    obtain ⟨⟨f1, f2, f3⟩, f4⟩ := hF
    refine ⟨⟨f1, ?_, ?_⟩, ?_⟩
    · rw [v2, v4]; exact f2
    · rw [v3, v1, v2, v4]; exact f3
    · unfold mf_G
      rw [v3, v1, v2, v4]
      exact f4
  refine hQ D (fun k k2 k51 => by rw [hK k k51, hXC.1 k k2, hXB.1 k k2]) (hb_ok_K (by decide) hK hokC) (fun s => ?_) (mf_H_K (hK 0 (by decide)) (hK 1 (by decide)) (hK 2 (by decide)) FC) (fun u u0 u1 n1 n2 => ?_) (fun s => by
    rw [hD, lq_s_fun]
    unfold hz_u
    rw [hXC.1 51 (by decide), hXB.1 51 (by decide)])
  rotate_left
  · rw [show hb_v D u = hb_v C u from by unfold hb_v hb_z hb_g; rw [hK 0 (by decide), hK 1 (by decide), hK 2 (by decide)], hb_X_v hXC u0 (by omega) (by omega) (hokB u u0 (by omega)), hb_X_v hXB u0 (by omega) (by omega) (hok u u0 (by omega))]
  rw [hD, lq_s_fun]
  unfold hz_u
  split
  · exact Or.inr rfl
  · rw [hXC.1 51 (by decide), hXB.1 51 (by decide)]
    exact hth s
