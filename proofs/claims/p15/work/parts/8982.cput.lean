theorem nu_pow2 (q : Nat) : ((2 : Int) ^ q) = ((2 ^ q : Nat) : Int) := by rw [Int.natCast_pow]; rfl
theorem nu_tn {u : Int} (h : 0 ≤ u) (q : Nat) : (u / 2 ^ q).toNat = u.toNat / 2 ^ q := by
  obtain ⟨n, rfl⟩ := Int.eq_ofNat_of_zero_le h
  rw [nu_pow2, ← Int.natCast_ediv, Int.toNat_natCast, Int.toNat_natCast]
theorem nu_nat {u m : Int} {s : Nat} (hu : ¬ u = 0) (h0 : 0 ≤ u) (h : ¬ u = 0 → u = m * 2 ^ s ∧ m % 2 = 1) : ∃ M : Nat, m = (M : Int) ∧ u.toNat = M * 2 ^ s ∧ M % 2 = 1 ∧ u / 2 ^ s = (M : Int) := by
  obtain ⟨h1, h2⟩ := cd_oddpart hu h h0
  obtain ⟨h3, h4⟩ := h hu
  refine ⟨m.toNat, by omega, ?_, by omega, by omega⟩
  obtain ⟨M, rfl⟩ := Int.eq_ofNat_of_zero_le (show 0 ≤ m by omega)
  rw [h3, nu_pow2, ← Int.natCast_mul, Int.toNat_natCast, Int.toNat_natCast]
theorem nu_cut {u M s q : Nat} (e : u = M * 2 ^ s) (h : q ≤ s) : u = u / 2 ^ q * 2 ^ q ∧ u / 2 ^ q = M * 2 ^ (s - q) := by
  have hp : 0 < 2 ^ q := Nat.pos_of_ne_zero (by intro c; have := Nat.pow_eq_zero.mp c; omega)
  have e2 : u = M * 2 ^ (s - q) * 2 ^ q := by rw [e, Nat.mul_assoc, ← Nat.pow_add, show s - q + q = s by omega]
  have e3 : u / 2 ^ q = M * 2 ^ (s - q) := by rw [e2, Nat.mul_div_cancel _ hp]
  exact ⟨by rw [e3]; exact e2, e3⟩
theorem nu_lt {u : Int} {i : Nat} (h0 : 0 ≤ u) (h : u < 2 ^ i) : u.toNat < 2 ^ i := by
  rw [nu_pow2] at h
  omega
section CR
variable {L : List Nat} {K : Nat → cw_K} {r : Nat → Nat → Nat} {z A : Nat → Nat → Int} {w : Nat → Nat × Nat} {ρ : Nat → Nat} {S : Nat → Prop} {R : Nat}
theorem nu_1024 {b : Nat} (hk : 0 ≤ z b 1 ∧ z b 1 ≤ 32) : cb_u r z A b < 2 ^ 1024 := by
  have h1 := (cb_V_range (A (r b 0)) (z b 1).toNat).2
  have h2 := cb_pow_le (show (z b 1).toNat ≤ 32 by omega)
  have h3 : (4294967296 : Int) ^ 32 = 2 ^ 1024 := by decide +kernel
  unfold cb_u
  omega
theorem wz_c4_shareTwos (h : cJ L K r z A) (h1 : cg_1 L K r w ρ) (h4 : cg_4 L K r w ρ) (hO : cw_O L K 4 R) (hR : S (ρ R)) (hnz : ¬ cb_u r z A (r R 0) = 0) (hnb : ¬ cb_u r z A (r R 1) = 0) {Q : (Nat → Nat → Int) → (Nat → Nat → Int) → Prop}
    (hQ : ∀ z' A' : Nat → Nat → Int, cJ L K r z' A' → cF ρ S z A z' A' → (∃ q : Nat, (cb_u r z A (r R 0)).toNat = (cb_u r z' A' (r R 0)).toNat * 2 ^ q ∧ (cb_u r z A (r R 1)).toNat = (cb_u r z' A' (r R 1)).toNat * 2 ^ q) → ((cb_u r z' A' (r R 0)).toNat % 2 = 1 ∨ (cb_u r z' A' (r R 1)).toNat % 2 = 1) → z' (r R 0) 2 = z (r R 0) 2 → z' (r R 1) 2 = z (r R 1) 2 → Q z' A') : wp_c4_shareTwos L K z r A R Q := by
  obtain ⟨⟨t1, t2, t3, t4⟩, ⟨b1, b2, b3, b4⟩, -, -, -⟩ := h4 R hO
  have ne : r R 0 ≠ r R 1 := cg_ne t3 b3 (by simp)
  refine ⟨hO, t1, wq_c0_lowZeros h.1 t1 (fun s s0 _ hs => ⟨b1, wq_c0_lowZeros h.1 b1 (fun t ht0 _ ht => ⟨by omega, by omega, fun x ex => ?_⟩)⟩)⟩
  obtain ⟨m, hm⟩ := hs
  obtain ⟨n, hn⟩ := ht
  obtain ⟨M, -, eM, oM, -⟩ := nu_nat hnz (cb_u_nn _ _ _ _) hm
  obtain ⟨N, -, eN, oN, -⟩ := nu_nat hnb (cb_u_nn _ _ _ _) hn
  obtain ⟨q, hq, hqs, hqt, hor⟩ : ∃ q : Nat, x = (q : Int) ∧ q ≤ s ∧ q ≤ t ∧ (q = s ∨ q = t) := ⟨x.toNat, by omega, by omega, by omega, by omega⟩
  rw [hq]
  refine wq_c0_shiftDown h.1 t1 (by omega) (fun z1 A1 k1 hY1 hu1 hl1 hs1 => ?_)
  have o1 := cb_k_other h.1.1 t1 b1 ne.symm hY1
  refine wq_c0_shiftDown k1 b1 (by omega) (fun z2 A2 k2 hY2 hu2 hl2 hs2 => ?_)
  have o2 := cb_k_other k1.1 b1 t1 ne hY2
  have ut : cb_u r z2 A2 (r R 0) = cb_u r z A (r R 0) / 2 ^ q := by rw [o2.2.1, hu1]
  have ub : cb_u r z2 A2 (r R 1) = cb_u r z A (r R 1) / 2 ^ q := by rw [hu2, o1.2.1]
  have ct := nu_cut eM hqs
  have cb := nu_cut eN hqt
  have nt : (cb_u r z2 A2 (r R 0)).toNat = (cb_u r z A (r R 0)).toNat / 2 ^ q := by rw [ut]; exact nu_tn (cb_u_nn _ _ _ _) q
  have nb : (cb_u r z2 A2 (r R 1)).toNat = (cb_u r z A (r R 1)).toNat / 2 ^ q := by rw [ub]; exact nu_tn (cb_u_nn _ _ _ _) q
  have pt := cd_few hnz hm (cb_u_nn _ _ _ _) hqs
  have pb := cd_few hnb hn (cb_u_nn _ _ _ _) hqt
  have l1 : 0 < z1 (r R 0) 1 := by
    have e0 := cb_u0 (k1.2 _ t1) k1.1 t1
    have := (k1.2 _ t1).1
    omega
  have l2 : 0 < z2 (r R 1) 1 := by
    have e0 := cb_u0 (k2.2 _ b1) k2.1 b1
    have := (k2.2 _ b1).1
    omega
  refine hQ z2 A2 (cJ_Y (cJ_Y h t1 k1 hY1) b1 k2 hY2) (cF_trans (cF_Y h1 t1 (by rw [t4]; exact hR) hY1) (cF_Y h1 b1 (by rw [b4]; exact hR) hY2)) ⟨q, by rw [nt]; exact ct.1, by rw [nb]; exact cb.1⟩ ?_ (by rw [hY2.1 _ ne]; exact hs1 l1) (by rw [hs2 l2, hY1.1 _ ne.symm])
  rcases hor with c | c
  · left
    rw [nt, ct.2, c, Nat.sub_self, Nat.pow_zero, Nat.mul_one]
    exact oM
  · right
    rw [nb, cb.2, c, Nat.sub_self, Nat.pow_zero, Nat.mul_one]
    exact oN
set_option maxHeartbeats 4000000 in
theorem wz_c4_findOddDivisor (h : cJ L K r z A) (h1 : cg_1 L K r w ρ) (h4 : cg_4 L K r w ρ) (hO : cw_O L K 4 R) (hR : S (ρ R)) (hnz : ¬ cb_u r z A (r R 0) = 0) (hnb : ¬ cb_u r z A (r R 1) = 0) {Q : (Nat → Nat → Int) → (Nat → Nat → Int) → Prop}
    (hQ : ∀ z' A' : Nat → Nat → Int, cJ L K r z' A' → cF ρ S z A z' A' → (∀ a, a ≠ r R 3 → a ≠ r R 4 → z' a = z a) → (∀ a, a ≠ r (r R 3) 0 → a ≠ r (r R 4) 0 → A' a = A a) → (∃ F G s t : Nat, (cb_u r z A (r R 0)).toNat = F * 2 ^ s ∧ F % 2 = 1 ∧ (cb_u r z A (r R 1)).toNat = G * 2 ^ t ∧ G % 2 = 1 ∧ (cb_u r z' A' (r R 3)).toNat = Nat.gcd F G) → z' (r R 3) 2 = 0 → z' (r R 3) 1 ≤ 32 → Q z' A') : wp_c4_findOddDivisor L K z r A R Q := by
  obtain ⟨⟨t1, t2, t3, t4⟩, ⟨b1, b2, b3, b4⟩, ⟨f1, f2, f3, f4⟩, ⟨s1, s2, s3, s4⟩, -⟩ := h4 R hO
  have fs : r R 3 ≠ r R 4 := cg_ne f3 s3 (by simp)
  have ft : r R 3 ≠ r R 0 := cg_ne f3 t3 (by simp)
  have fb : r R 1 ≠ r R 3 := cg_ne b3 f3 (by simp)
  have fS : S (ρ (r R 3)) := by rw [f4]; exact hR
  have sS : S (ρ (r R 4)) := by rw [s4]; exact hR
  have tk := (h.1.2 _ t1).1
  have bk0 := (h.1.2 _ b1).1
  have bt := nu_1024 (r := r) (A := A) (z := z) (b := r R 0) (by omega)
  have bb := nu_1024 (r := r) (A := A) (z := z) (b := r R 1) (by omega)
  refine ⟨hO, f1, wq_c0_copy h.1 f1 t1 (by omega) (fun z1 A1 k1 hY1 hu1 _ hl1 hs1 z2 e2 => ?_)⟩
  have kk1 := k1.2 _ f1
  have a1 : z2 (r R 3) 1 = z1 (r R 3) 1 := by rw [e2, cw_s_k (by decide)]
  have a2 : z2 (r R 3) 2 = 0 := by rw [e2, cw_s_same]
  have hY2 : cb_Y r (r R 3) z1 A1 z2 A1 := ⟨fun a ha => by rw [e2, cw_s_a ha], fun _ _ => rfl⟩
  have k2 : cb_all L K r z2 A1 := cb_all_of k1 f1 hY2 k1.1 (by
    unfold cb_k
    rw [a1, a2]
    exact ⟨kk1.1, Or.inl rfl, kk1.2.2.1, fun _ => rfl⟩)
  have u2 : cb_u r z2 A1 (r R 3) = cb_u r z A (r R 0) := by
    have : cb_u r z2 A1 (r R 3) = cb_u r z1 A1 (r R 3) := by unfold cb_u; rw [a1]
    rw [this, hu1]
  refine wq_c0_lowZeros k2 f1 (fun s s0 _ hs => ?_)
  obtain ⟨m, hm⟩ := hs
  obtain ⟨F, eF, nF, oF, dF⟩ := nu_nat (by rw [u2]; exact hnz) (cb_u_nn _ _ _ _) hm
  refine wq_c0_shiftDown k2 f1 (by omega) (fun z3 A3 k3 hY3 hu3 hl3 hs3 => ⟨s1, ?_⟩)
  have u3 : cb_u r z3 A3 (r R 3) = (F : Int) := by rw [hu3, dF]
  have Fp : 0 < F := by omega
  have g3 : z3 (r R 3) 2 = 0 := by
    have e0 := cb_u0 (k3.2 _ f1) k3.1 f1
    have := (k3.2 _ f1).1
    rw [hs3 (by omega)]
    exact a2
  have bk := (k3.2 _ b1).1
  have ub3 : cb_u r z3 A3 (r R 1) = cb_u r z A (r R 1) := by
    rw [(cb_k_other k2.1 f1 b1 fb hY3).2.1, (cb_k_other k1.1 f1 b1 fb hY2).2.1, (cb_k_other h.1.1 f1 b1 fb hY1).2.1]
  refine wq_c0_copy k3 s1 b1 (by omega) (fun z4 A4 k4 hY4 hu4 _ hl4 hs4 => ?_)
  have u4 : cb_u r z4 A4 (r R 4) = cb_u r z A (r R 1) := by rw [hu4, ub3]
  refine wq_c0_lowZeros k4 s1 (fun t t0 _ ht => ?_)
  obtain ⟨n', hn'⟩ := ht
  obtain ⟨G, eG, nG, oG, dG⟩ := nu_nat (by rw [u4]; exact hnb) (cb_u_nn _ _ _ _) hn'
  refine wq_c0_shiftDown k4 s1 (by omega) (fun z5 A5 k5 hY5 hu5 hl5 hs5 => ?_)
  have o5 : z5 (r R 3) = z3 (r R 3) := by rw [hY5.1 _ fs, hY4.1 _ fs]
  have j5 : cJ L K r z5 A5 := cJ_Y (cJ_Y (cJ_Y (cJ_Y (cJ_Y h f1 k1 hY1) f1 k2 hY2) f1 k3 hY3) s1 k4 hY4) s1 k5 hY5
  have F5 : cF ρ S z A z5 A5 := cF_trans (cF_trans (cF_trans (cF_trans (cF_Y h1 f1 fS hY1) (cF_Y h1 f1 fS hY2)) (cF_Y h1 f1 fS hY3)) (cF_Y h1 s1 sS hY4)) (cF_Y h1 s1 sS hY5)
  have z5o : ∀ a, a ≠ r R 3 → a ≠ r R 4 → z5 a = z a := fun a n1 n2 => by rw [hY5.1 a n2, hY4.1 a n2, hY3.1 a n1, hY2.1 a n1, hY1.1 a n1]
  have A5o : ∀ a, a ≠ r (r R 3) 0 → a ≠ r (r R 4) 0 → A5 a = A a := fun a n1 n2 => by rw [hY5.2 a n2, hY4.2 a n2, hY3.2 a n1, hY1.2 a n1]
  have u5 : cb_u r z5 A5 (r R 3) = (F : Int) := by
    rw [(cb_k_other k4.1 s1 f1 fs hY5).2.1, (cb_k_other k3.1 s1 f1 fs hY4).2.1]
    exact u3
  have v5 : cb_u r z5 A5 (r R 4) = (G : Int) := by rw [hu5, dG]
  have bF : F < 2 ^ 1024 := by
    have q1 : 1 ≤ 2 ^ s := Nat.one_le_two_pow
    have q2 : F * 1 ≤ F * 2 ^ s := Nat.mul_le_mul_left _ q1
    have q3 := nu_lt (cb_u_nn r z A (r R 0)) bt
    rw [u2] at nF
    omega
  have bG : G < 2 ^ 1024 := by
    have q1 : 1 ≤ 2 ^ t := Nat.one_le_two_pow
    have q2 : G * 1 ≤ G * 2 ^ t := Nat.mul_le_mul_left _ q1
    have q3 := nu_lt (cb_u_nn r z A (r R 1)) bb
    rw [u4] at nG
    omega
  have done : ∀ z6 A6 : Nat → Nat → Int, cJ L K r z6 A6 → cF ρ S z A z6 A6 → (∀ a, a ≠ r R 3 → a ≠ r R 4 → z6 a = z a) → (∀ a, a ≠ r (r R 3) 0 → a ≠ r (r R 4) 0 → A6 a = A a) → (cb_u r z6 A6 (r R 3)).toNat = Nat.gcd F G → z6 (r R 3) 2 = 0 → z6 (r R 3) 1 ≤ 32 → Q z6 A6 := fun z6 A6 q1 q2 q3 q4 q5 q6 q7 => hQ z6 A6 q1 q2 q3 q4 ⟨F, G, s, t, by rw [u2] at nF; exact nF, oF, by rw [u4] at nG; exact nG, oG, q5⟩ q6 q7
  intro P hP
  have key : ∀ (k n : Nat) (z6 A6 : Nat → Nat → Int) (x : Int) (f g i j : Nat), n + k = 100000 → x = (n : Int) → cJ L K r z6 A6 → cF ρ S z A z6 A6 → (∀ a, a ≠ r R 3 → a ≠ r R 4 → z6 a = z a) → (∀ a, a ≠ r (r R 3) 0 → a ≠ r (r R 4) 0 → A6 a = A a) → cb_u r z6 A6 (r R 3) = (f : Int) → cb_u r z6 A6 (r R 4) = (g : Int) → f % 2 = 1 → g % 2 = 1 → Nat.gcd f g = Nat.gcd F G → f < 2 ^ i → g < 2 ^ j → i + j + n ≤ 2048 → z6 (r R 3) 2 = 0 → z6 (r R 3) 1 ≤ 32 → P z6 A6 x := by
    intro k
    induction k with
    | zero =>
      intro n z6 A6 x f g i j en ex j6 F6 o6 p6 uf ug of og hg bi bj hb g6 l6
      omega
    | succ k ih =>
      intro n z6 A6 x f g i j en ex j6 F6 o6 p6 uf ug of og hg bi bj hb g6 l6
      refine hP z6 A6 x ⟨by omega, fun q => by omega, fun _ => ⟨hO, f1, wq_c0_orderOfSizes j6.1 f1 s1 (fun y y1 y2 y3 y4 => ⟨by omega, fun q => ⟨by omega, fun q2 => ⟨by omega, fun q3 => ⟨hO, s1, ?_⟩, fun q3 => by omega⟩, fun q2 => ⟨by omega, fun q3 => by omega, fun q3 => ⟨hO, f1, ?_⟩⟩⟩, fun q => ?_⟩)⟩⟩
      · -- the second one is the greater
        have k6 := (j6.1.2 _ s1).1
        have lt : f < g := by omega
        refine wq_c0_putDifference j6.1 s1 s1 f1 (by omega) (by omega) (fun z7 A7 k7 hY7 hu7 hl7 hs7 => ⟨s1, ?_⟩)
        refine wq_c0_lowZeros k7 s1 (fun t t0 _ ht => ?_)
        obtain ⟨m7, hm7⟩ := ht
        have n7 : ¬ cb_u r z7 A7 (r R 4) = 0 := by omega
        obtain ⟨M, -, eM, oM, dM⟩ := nu_nat n7 (cb_u_nn _ _ _ _) hm7
        have st := nu_step og of lt (by rw [← eM]; omega) oM
        refine wq_c0_shiftDown k7 s1 (by omega) (fun z8 A8 k8 hY8 hu8 hl8 hs8 x9 e9 => ?_)
        obtain ⟨j', ej⟩ : ∃ j', j = j' + 1 := ⟨j - 1, by
          have : ¬ j = 0 := fun c => by rw [c, Nat.pow_zero] at bj; omega
          omega⟩
        rw [ej, Nat.pow_succ] at bj
        refine ih (n + 1) z8 A8 x9 f M i j' (by omega) (by omega) (cJ_Y (cJ_Y j6 s1 k7 hY7) s1 k8 hY8) (cF_trans (cF_trans F6 (cF_Y h1 s1 sS hY7)) (cF_Y h1 s1 sS hY8)) (fun a n1 n2 => by rw [hY8.1 a n2, hY7.1 a n2, o6 a n1 n2]) (fun a n1 n2 => by rw [hY8.2 a n2, hY7.2 a n2, p6 a n1 n2]) ?_ (by rw [hu8, dM]) of oM (by rw [Nat.gcd_comm, st.1, Nat.gcd_comm]; exact hg) bi (by omega) (by omega) ?_ ?_
        · rw [(cb_k_other k7.1 s1 f1 fs hY8).2.1, (cb_k_other j6.1.1 s1 f1 fs hY7).2.1]; exact uf
        · rw [hY8.1 _ fs, hY7.1 _ fs]; exact g6
        · rw [hY8.1 _ fs, hY7.1 _ fs]; exact l6
      · have k6 := (j6.1.2 _ f1).1
        have lt : g < f := by omega
        refine wq_c0_putDifference j6.1 f1 f1 s1 (by omega) (by omega) (fun z7 A7 k7 hY7 hu7 hl7 hs7 => ⟨f1, ?_⟩)
        have u7 : ¬ cb_u r z7 A7 (r R 3) = 0 := by omega
        refine wq_c0_lowZeros k7 f1 (fun t t0 _ ht => ?_)
        obtain ⟨m7, hm7⟩ := ht
        obtain ⟨M, -, eM, oM, dM⟩ := nu_nat u7 (cb_u_nn _ _ _ _) hm7
        have st := nu_step of og lt (by rw [← eM]; omega) oM
        refine wq_c0_shiftDown k7 f1 (by omega) (fun z8 A8 k8 hY8 hu8 hl8 hs8 x9 e9 => ?_)
        have u8 : cb_u r z8 A8 (r R 3) = (M : Int) := by rw [hu8, dM]
        have l7 : 0 < z7 (r R 3) 1 := by
          have e0 := cb_u0 (k7.2 _ f1) k7.1 f1
          have := (k7.2 _ f1).1
          omega
        have l8 : 0 < z8 (r R 3) 1 := by
          have e0 := cb_u0 (k8.2 _ f1) k8.1 f1
          have := (k8.2 _ f1).1
          omega
        obtain ⟨i', ei⟩ : ∃ i', i = i' + 1 := ⟨i - 1, by
          have : ¬ i = 0 := fun c => by rw [c, Nat.pow_zero] at bi; omega
          omega⟩
        rw [ei, Nat.pow_succ] at bi
        refine ih (n + 1) z8 A8 x9 M g i' j (by omega) (by omega) (cJ_Y (cJ_Y j6 f1 k7 hY7) f1 k8 hY8) (cF_trans (cF_trans F6 (cF_Y h1 f1 fS hY7)) (cF_Y h1 f1 fS hY8)) (fun a n1 n2 => by rw [hY8.1 a n1, hY7.1 a n1, o6 a n1 n2]) (fun a n1 n2 => by rw [hY8.2 a n1, hY7.2 a n1, p6 a n1 n2]) u8 ?_ oM og (by rw [st.1]; exact hg) (by omega) bj (by omega) ?_ (by omega)
        · rw [(cb_k_other k7.1 f1 s1 fs.symm hY8).2.1, (cb_k_other j6.1.1 f1 s1 fs.symm hY7).2.1]; exact ug
        · rw [hs8 l8, hs7 l7]
          exact g6
      · have efg : f = g := by omega
        refine done z6 A6 j6 F6 o6 p6 ?_ g6 l6
        rw [← hg, uf, efg, Nat.gcd_self]
        omega
  exact key 100000 0 z5 A5 0 F G 1024 1024 (by omega) rfl j5 F5 z5o A5o u5 v5 oF oG rfl bF bG (by omega) (by rw [o5]; exact g3) (by rw [o5]; omega)
end CR
