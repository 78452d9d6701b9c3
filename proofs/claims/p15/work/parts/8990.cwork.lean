theorem rq_best0 {n : Nat} {N : Int} {m ln d p mv k : Nat → Int} {G : Nat → Nat → Int} {R : Nat → Bool} {V : (Nat → Int) → Int} (hL : rq_L n N m ln d p) (hG : rq_G n N m ln p mv G) (hR : rq_C n d k R) (hk : ∀ s, s < n → k s = (if R s = true then mv s else 0)) (hV : ∀ x, rb_pl n m x → ∃ S : Nat → Bool, rq_C n d x S ∧ V x = rq_V (G n) ln x S n) : V k = G 0 0 := by
  have hd := rq_L_d hL
  have pk : rb_pl n m k := fun s hs => by
    have a := (hG s hs).1
    have b := (hL.2.1 s hs).2.1
    rw [hk s hs]
    split
    · exact a
    · omega
  have nn : ∀ x : Nat → Int, rb_pl n m x → ∀ S : Nat → Bool, ∀ i, i < n → 0 ≤ (if S i = true then G (i + 1) (ln i + mv i).toNat - G (i + 1) (ln i + x i).toNat else 0) := fun x hx S i hi => by
    split
    · have a := hx i hi
      have b := ((hG i hi).2.2 (x i) a.1 a.2).1
      omega
    · exact Int.le_refl 0
  have vk : V k = G 0 0 := by
    obtain ⟨S, hS, eV⟩ := hV k pk
    have t := rq_tot hL hG pk hS (Nat.le_refl n)
    have z : cS (fun i => if S i = true then G (i + 1) (ln i + mv i).toNat - G (i + 1) (ln i + k i).toNat else 0) n = 0 := cS_zero (fun i hi => by
      show (if S i = true then G (i + 1) (ln i + mv i).toNat - G (i + 1) (ln i + k i).toNat else 0) = 0
      by_cases c : S i = true
      · have ag := rq_C_agree (k := i) hd hS hR (fun _ _ => rfl) i (Nat.le_refl i) hi
        rw [if_pos c, hk i hi, if_pos (by rw [← ag]; exact c)]
        omega
      · rw [if_neg c])
    omega
  exact vk
section CP
variable {L : List Nat} {K : Nat → cw_K} {r : Nat → Nat → Nat} {z A : Nat → Nat → Int} {w : Nat → Nat × Nat} {ρ : Nat → Nat} {S : Nat → Prop} {P g : Nat}
theorem wy_c6_work {m : Nat} {q M : Int} (h : cJ L K r z A) (hdg : ∀ a, cw_O L K 0 a → w (r a 0) = (a, 0)) (h1 : cg_1 L K r w ρ) (h2 : cg_2 L K r w ρ) (h3 : cg_3 L K r w ρ) (h6 : cg_6 L K r w ρ) (h7 : cg_7 L K r w ρ) (hP : cw_O L K 6 P) (hPS : S (ρ P)) (hF : cg_F L K r z A g) (hg : ¬ S (ρ g)) (hq : q = 0 ∨ q = 1) (hm : cw_O L K 3 m) (hmS : ¬ S (ρ m)) (hM : cm_M K r z A (r m 0) M) (hM0 : 0 ≤ M) (hfit : 100000000000000000 * M < 4294967296 ^ 32) (hL : rq_L (z (cw_g K (r g 1) q.toNat) 0).toNat (z (cw_g K (r g 1) q.toNat) 5) (A (r (cw_g K (r g 1) q.toNat) 2)) (A (r (cw_g K (r g 1) q.toNat) 6)) (A (r (cw_g K (r g 1) q.toNat) 4)) (A (r (cw_g K (r g 1) q.toNat) 7))) {Q : (Nat → Nat → Int) → (Nat → Nat → Int) → Prop} (hQ : ∀ z' A' : Nat → Nat → Int, cJ L K r z' A' → cF ρ S z A z' A' → rb_B (z (cw_g K (r g 1) q.toNat) 0).toNat (A (r (cw_g K (r g 1) q.toNat) 2)) (fun x => rq_V (fun l => cg_d q * cg_v K r z A g (r m 0) q (z (cw_g K (r g 1) (1 - q).toNat) 5).toNat l) (A (r (cw_g K (r g 1) q.toNat) 6)) x (rq_R (A (r (cw_g K (r g 1) q.toNat) 4)) x (z (cw_g K (r g 1) q.toNat) 0).toNat) (z (cw_g K (r g 1) q.toNat) 0).toNat) (A' (r P 0)) → cg_d q * cb_v r z' A' (cw_g K (r P 2) 0) = rq_V (fun l => cg_d q * cg_v K r z A g (r m 0) q (z (cw_g K (r g 1) (1 - q).toNat) 5).toNat l) (A (r (cw_g K (r g 1) q.toNat) 6)) (A' (r P 0)) (rq_R (A (r (cw_g K (r g 1) q.toNat) 4)) (A' (r P 0)) (z (cw_g K (r g 1) q.toNat) 0).toNat) (z (cw_g K (r g 1) q.toNat) 0).toNat → Q z' A') : wp_c6_work L K z r A P g q m Q := by
  have h6' := h6 P hP
  obtain ⟨⟨a1, a2, a3, a4⟩, -, ⟨l1, l2, l3, l4⟩, -, -⟩ := h6'
  have da := cg_dig hdg a3 hP (by decide)
  have hg0 := hF.1
  obtain ⟨-, ⟨s1, s2, s3⟩, -⟩ := h2 g hg0
  have sq := s3 q.toNat (by omega)
  have nS : ¬ S (ρ (cw_g K (r g 1) q.toNat)) := by rw [sq.2.2]; exact hg
  refine ⟨hP, wz_c6_gather h h1 h2 h3 h6 h7 hP hPS hF hg hq hm hmS hM hM0 (by omega) (fun z1 A1 j1 F1 b1 val1 => ⟨hg0, s1, by omega, sq.1, fun x ex => ?_⟩)⟩
  have Fq := cg_F_side hF hq
  obtain ⟨s, hs⟩ : ∃ s, s = cw_g K (r g 1) q.toNat := ⟨_, rfl⟩
  obtain ⟨gv, hgv⟩ : ∃ gv : Nat → Int, gv = fun l => cg_v K r z A g (r m 0) q (z (cw_g K (r g 1) (1 - q).toNat) 5).toNat l := ⟨_, rfl⟩
  have val1' : ∀ l : Nat, (l : Int) < z (cw_g K (r g 1) q.toNat) 5 → cb_v r z1 A1 (cw_g K (r P 2) l) = gv l := fun l hl => by rw [hgv]; exact val1 l hl
  have hQ' : ∀ z' A' : Nat → Nat → Int, cJ L K r z' A' → cF ρ S z A z' A' → rb_B (z (cw_g K (r g 1) q.toNat) 0).toNat (A (r (cw_g K (r g 1) q.toNat) 2)) (fun x => rq_V (fun l => cg_d q * gv l) (A (r (cw_g K (r g 1) q.toNat) 6)) x (rq_R (A (r (cw_g K (r g 1) q.toNat) 4)) x (z (cw_g K (r g 1) q.toNat) 0).toNat) (z (cw_g K (r g 1) q.toNat) 0).toNat) (A' (r P 0)) → cg_d q * cb_v r z' A' (cw_g K (r P 2) 0) = rq_V (fun l => cg_d q * gv l) (A (r (cw_g K (r g 1) q.toNat) 6)) (A' (r P 0)) (rq_R (A (r (cw_g K (r g 1) q.toNat) 4)) (A' (r P 0)) (z (cw_g K (r g 1) q.toNat) 0).toNat) (z (cw_g K (r g 1) q.toNat) 0).toNat → Q z' A' := by rw [hgv]; exact hQ
  clear hQ val1
  rw [← hs] at sq nS b1 ex Fq hL val1' hQ' ⊢
  have e0 : z1 s 0 = z s 0 := by rw [(F1 _ nS).1]
  obtain ⟨-, ⟨m1, m2, m3, m4⟩, -, -, ⟨n1, n2, n3, n4⟩, ⟨p1, p2, p3, p4⟩⟩ := h7 s sq.1
  have f2 := Fq.2.1
  intro PP hPP
  have key : ∀ (k t : Nat) (z2 A2 : Nat → Nat → Int) (x : Int), k + t = (z s 0).toNat → x = (k : Int) - 1 → cJ L K r z2 A2 → cF ρ S z A z2 A2 → (∀ i : Nat, (i : Int) < z s 5 → cb_u r z2 A2 (cw_g K (r P 2) i) ≤ 8000000000000 * M * 2 ^ t) → (∃ (mv : Nat → Int) (G : Nat → Nat → Int), cg_K (z s 0).toNat k (z s 5) (cg_d q) (A (r s 2)) (A (r s 6)) (A (r s 7)) mv G ∧ (∀ l : Nat, (l : Int) < z s 5 → G (z s 0).toNat l = gv l ∧ G k l = cb_v r z2 A2 (cw_g K (r P 2) l)) ∧ ∀ i, k ≤ i → i < (z s 0).toNat → A2 (r P 0) i = mv i) → PP z2 A2 x := by
    intro k
    induction k with
    | zero =>
      intro t z2 A2 x hk ex j2 F2 b2 hmg
      refine hPP z2 A2 x ⟨by omega, fun _ => ⟨hP, ?_⟩, fun c => by omega⟩
      obtain ⟨mv, G, hK, hG, hmv⟩ := hmg
      refine wz_c6_dropUnreached j2 hdg h6 h7 hP hPS (cs_F_keep h7 Fq F2 nS) nS (fun A3 j3 F3 o3 hR => ?_)
      obtain ⟨R, hR1, hR2⟩ := hR
      have e00 : z2 s 0 = z s 0 := by rw [(F2 _ nS).1]
      have e4' : A2 (r s 4) = A (r s 4) := (F2 _ (by rw [(h7 s sq.1).2.2.2.1.2.2.2]; exact nS)).2
      rw [e00, e4'] at hR1
      rw [e00] at hR2
      have hk9 : ∀ i, i < (z s 0).toNat → A3 (r P 0) i = (if R i = true then mv i else 0) := fun i hi => by rw [hR2 i hi, hmv i (Nat.zero_le i) hi]
      have hV9 : ∀ y, rb_pl (z s 0).toNat (A (r s 2)) y → ∃ S' : Nat → Bool, rq_C (z s 0).toNat (A (r s 4)) y S' ∧ (fun x => rq_V (fun l => cg_d q * gv l) (A (r s 6)) x (rq_R (A (r s 4)) x (z s 0).toNat) (z s 0).toNat) y = rq_V ((fun i l => cg_d q * G i l) (z s 0).toNat) (A (r s 6)) y S' (z s 0).toNat := fun y hy => ⟨_, rq_R_C (rq_L_d hL), rq_V_congr hL hy (fun l hl => by show cg_d q * gv l = cg_d q * G (z s 0).toNat l; rw [(hG l hl).1])⟩
      refine hQ' z2 A3 j3 (cF_trans F2 F3) (rq_best hL (cg_K_G hK) hR1 hk9 hV9) ?_
      refine Eq.trans ?_ (rq_best0 hL (cg_K_G hK) hR1 hk9 hV9).symm
      have l0 := hL.1
      show cg_d q * cb_v r z2 A3 (cw_g K (r P 2) 0) = cg_d q * G 0 0
      rw [(hG 0 (by omega)).2]
      have db := cg_dig hdg (h6 P hP).2.1.2.2.1 hP (by decide)
      have p0 := (l4 0 (by omega)).1
      unfold cb_v cb_u
      rw [o3 _ (da _ p0) (db _ p0)]
    | succ k ih =>
      intro t z2 A2 x hk ex j2 F2 b2 hmg
      have F2q := cs_F_keep h7 Fq F2 nS
      have fk := Fq.2.2.2 k (by omega)
      have f3 := Fq.2.2.1
      have ek : x.toNat = k := by omega
      have e5 : z2 s 5 = z s 5 := by rw [(F2 _ nS).1]
      have e00 : z2 s 0 = z s 0 := by rw [(F2 _ nS).1]
      have em : A2 (r s 2) = A (r s 2) := (F2 _ (by rw [m4]; exact nS)).2
      have en : A2 (r s 6) = A (r s 6) := (F2 _ (by rw [n4]; exact nS)).2
      have ep : A2 (r s 7) = A (r s 7) := (F2 _ (by rw [p4]; exact nS)).2
      have pw : (2 : Int) ^ t ≤ 1024 := by
        have : (2 : Int) ^ t ≤ 2 ^ 10 := cn_pow (by omega)
        omega
      have pw0 : (0 : Int) < 2 ^ t := Int.pow_pos (by decide)
      have bt : 8000000000000 * M * 2 ^ t ≤ 8000000000000 * M * 1024 := Int.mul_le_mul_of_nonneg_left pw (by omega)
      have b1t : 8000000000000 * M * 2 ^ (t + 1) = 8000000000000 * M * 2 ^ t + 8000000000000 * M * 2 ^ t := by rw [Int.pow_succ, ← Int.mul_assoc]; omega
      have bt0 : 0 ≤ 8000000000000 * M * 2 ^ t := Int.mul_nonneg (by omega) (by omega)
      have main : ∀ d : Int, d = cg_d q → wp_c6_work_49 L K z2 r A2 P q s x d x s P x (r P 0) PP Q := by
        intro d hd
        have hd1 : d = 1 ∨ d = -1 := by rw [hd]; unfold cg_d; split; exact Or.inl rfl; exact Or.inr rfl
        refine ⟨hP, wz_c6_bestMove j2 h6 h7 hP F2q (by omega) hd1 (fun v v0 v1 vb => ⟨a1, by omega, fun A3 e3 => ?_⟩)⟩
        rw [em, ek] at v1
        rw [em, ek, en] at vb
        have ns : ∀ k', w (r s k') = (s, k') → r s k' ≠ r P 0 := fun k' hk' => cg_ne hk' a3 (by simp; intro e; exact absurd e (cw_O_ne sq.1 hP (by decide)))
        have c6 : A3 (r s 6) = A (r s 6) := by rw [e3, hz_s_a (ns 6 n3)]; exact en
        have c7 : A3 (r s 7) = A (r s 7) := by rw [e3, hz_s_a (ns 7 p3)]; exact ep
        have c0 : A3 (r P 0) x.toNat = v := by rw [e3, hz_s_same]
        have j3 : cJ L K r z2 A3 := by rw [e3]; exact cJ_st j2 a1 da ⟨fun _ => by omega, by omega, by omega, by omega⟩
        have F3 : cF ρ S z A z2 A3 := cF_trans F2 (by rw [e3]; exact cF_st (by rw [a4]; exact hPS))
        obtain ⟨g1, g2, g3, g4⟩ := l4 (A (r s 7) k).toNat (by omega)
        obtain ⟨o1, o2, o3, o4⟩ := l4 (A (r s 6) k + v).toNat (by omega)
        refine ⟨hP, sq.1, p1, by omega, l1, by rw [c7, ek]; omega, n1, by omega, a1, by omega, by rw [c6, c0, ek]; omega, by rw [c7, ek]; exact g1, ?_⟩
        rw [c7, c6, c0, ek]
        have b3 : ∀ i : Nat, (i : Int) < z s 5 → cb_u r z2 A3 (cw_g K (r P 2) i) ≤ 8000000000000 * M * 2 ^ t := by
          intro i hi
          have e : cb_u r z2 A3 (cw_g K (r P 2) i) = cb_u r z2 A2 (cw_g K (r P 2) i) := by
            unfold cb_u
            rw [e3, hz_s_a (da _ (l4 i (by omega)).1)]
          rw [e]
          exact b2 i hi
        have ua := b3 (A (r s 7) k).toNat (by omega)
        have ub := b3 (A (r s 6) k + v).toNat (by omega)
        have nne : cw_g K (r P 2) (A (r s 6) k + v).toNat ≠ cw_g K (r P 2) (A (r s 7) k).toNat := cg_ne o3 g3 (by simp; omega)
        refine wq_c0_plus j3.1 g1 o1 nne (by rw [g2]; omega) (fun z4 A4 k4 hY4 hv4 x1 e1 => ?_)
        refine ih (t + 1) z4 A4 x1 (by omega) (by omega) (cJ_Y j3 g1 k4 hY4) (cF_trans F3 (cF_Y h1 g1 (by rw [g4]; exact hPS) hY4)) (fun i hi => ?_) (by
          obtain ⟨mv, G, hK, hG, hmv⟩ := hmg
          have ve : ∀ l : Nat, (l : Int) < z s 5 → cb_v r z2 A3 (cw_g K (r P 2) l) = cb_v r z2 A2 (cw_g K (r P 2) l) := by
            intro l hl
            unfold cb_v cb_u
            rw [e3, hz_s_a (da _ (l4 l (by omega)).1)]
          have r0 : r P 0 ≠ r (cw_g K (r P 2) (A (r s 7) k).toNat) 0 := Ne.symm (da _ g1)
          refine ⟨lp_U mv k v, lp_U G k (fun l => cb_v r z4 A4 (cw_g K (r P 2) l)), cg_K_up hK ⟨v0, v1⟩ (fun l hl => ?_) (fun k' h0 h1' => ?_), fun l hl => ⟨?_, ?_⟩, fun i hi hin => ?_⟩
          · show cb_v r z4 A4 (cw_g K (r P 2) l) = _
            rw [(hG (A (r s 6) k + v).toNat (by omega)).2, (hG l hl).2]
            by_cases el : l = (A (r s 7) k).toNat
            · rw [if_pos el, el, hv4, ve _ (by omega), ve _ (by omega)]
            · rw [if_neg el, (cb_k_other j3.1.1 g1 (l4 l (by omega)).1 (cg_ne (l4 l (by omega)).2.2.1 g3 (by simp; exact el)) hY4).2.2, ve l hl]
              omega
          · rw [(hG (A (r s 6) k + v).toNat (by omega)).2, (hG (A (r s 6) k + k').toNat (by omega)).2, ← hd]
            exact vb k' h0 h1'
          · rw [lp_U_other (by omega)]
            exact (hG l hl).1
          · rw [lp_U_same]
          · rw [hY4.2 _ r0]
            by_cases ei : i = k
            · rw [ei, lp_U_same, ← ek]
              exact c0
            · rw [lp_U_other ei, e3, hz_s_i (by omega)]
              exact hmv i (by omega) hin)
        by_cases hii : i = (A (r s 7) k).toNat
        · have un : cb_u r z4 A4 (cw_g K (r P 2) i) ≤ cb_u r z2 A3 (cw_g K (r P 2) i) + cb_u r z2 A3 (cw_g K (r P 2) (A (r s 6) k + v).toNat) := by
            rw [hii]
            have x1' := cb_u_nn r z4 A4 (cw_g K (r P 2) (A (r s 7) k).toNat)
            have x2' := cb_u_nn r z2 A3 (cw_g K (r P 2) (A (r s 7) k).toNat)
            have x3' := cb_u_nn r z2 A3 (cw_g K (r P 2) (A (r s 6) k + v).toNat)
            unfold cb_v at hv4
            split at hv4 <;> split at hv4 <;> split at hv4 <;> omega
          have := b3 i hi
          omega
        · rw [(cb_k_other j3.1.1 g1 (l4 i (by omega)).1 (cg_ne (l4 i (by omega)).2.2.1 g3 (by simp; exact hii)) hY4).2.1]
          have := b3 i hi
          omega
      refine hPP z2 A2 x ⟨by omega, fun c => by omega, fun _ => ⟨hP, by omega, fun cq => main (-1) (by unfold cg_d; rw [if_neg cq]), fun cq => main 1 (by unfold cg_d; rw [if_pos cq])⟩⟩
  exact key (z s 0).toNat 0 z1 A1 x (by omega) (by omega) j1 F1 (fun i hi => by have := b1 i hi; omega) ⟨fun _ => 0, fun _ l => cb_v r z1 A1 (cw_g K (r P 2) l), fun i hi hin => by omega, fun l hl => ⟨val1' l hl, rfl⟩, fun i hi hin => by omega⟩
theorem wy_c6_meet {m n b : Nat} (h : cJ L K r z A) (h1 : cg_1 L K r w ρ) (h2 : cg_2 L K r w ρ) (h3 : cg_3 L K r w ρ) (h6 : cg_6 L K r w ρ) (h7 : cg_7 L K r w ρ) (hP : cw_O L K 6 P) (hPS : S (ρ P)) (hF : cg_F L K r z A g) (hg : ¬ S (ρ g)) (hm : cw_O L K 3 m) (hmS : ¬ S (ρ m)) (hmT : cm_T K r z m) (hn : cw_O L K 3 n) (hnS : ¬ S (ρ n)) (hnT : cm_T K r z n) (hb : cw_O L K 0 b) (hbn : cw_n K (r b 0) = 32) (hbS : S (ρ b)) (hbP : ρ b ≠ ρ P) {Q : (Nat → Nat → Int) → (Nat → Nat → Int) → Prop} (hQ : ∀ z' A' : Nat → Nat → Int, cJ L K r z' A' → cF ρ S z A z' A' → cb_v r z' A' b = cS (fun i => cg_v K r z A g (r n 0) 0 (z (cw_g K (r g 1) 1) 5).toNat i * cb_v r z A (cw_g K (r m 0) i)) (z (cw_g K (r g 1) 0) 5).toNat → cb_u r z' A' b ≤ 8000000000000 * 4294967296 ^ 12 * 4294967296 ^ 12 * 20 → Q z' A') : wp_c6_meet L K z r A P g m n b Q := by
  obtain ⟨-, -, ⟨l1, l2, l3, l4⟩, -, ⟨t1, t2, t3, t4⟩⟩ := h6 P hP
  obtain ⟨⟨p1, p2, p3, p4⟩, -⟩ := h3 m hm
  have hg0 := hF.1
  obtain ⟨-, ⟨s1, s2, s3⟩, -⟩ := h2 g hg0
  have sq := s3 0 (by omega)
  have nS : ¬ S (ρ (cw_g K (r g 1) 0)) := by rw [sq.2.2]; exact hg
  have F0 := hF.2.1
  have f3 := F0.2.2.1
  have M12 := cm_T_M h h3 hn hnT
  obtain ⟨gv, hgv⟩ : ∃ gv : Nat → Int, gv = fun i => cg_v K r z A g (r n 0) 0 (z (cw_g K (r g 1) 1) 5).toNat i := ⟨_, rfl⟩
  refine ⟨hP, wz_c6_gather (M := 4294967296 ^ 12) h h1 h2 h3 h6 h7 hP hPS hF hg (Or.inl rfl) hn hnS M12 (by decide) (by decide) (fun z1 A1 j1 F1 b1 vg1 => ⟨hb, ?_⟩)⟩
  have vg1 : ∀ i : Nat, (i : Int) < z (cw_g K (r g 1) 0) 5 → cb_v r z1 A1 (cw_g K (r P 2) i) = gv i := fun i hi => by rw [hgv]; exact vg1 i hi
  refine wq_c0_put j1.1 hb (by omega) (fun z2 A2 k2 hY2 hv2 _ => ?_)
  have j2 := cJ_Y j1 hb k2 hY2
  have F2 : cF ρ S z A z2 A2 := cF_trans F1 (cF_Y h1 hb hbS hY2)
  have nb : ∀ c, ρ c = ρ P → c ≠ b := fun c hc e => hbP (by rw [← e, hc])
  have b2 : ∀ i : Nat, (i : Int) < z (cw_g K (r g 1) 0) 5 → cb_u r z2 A2 (cw_g K (r P 2) i) ≤ 8000000000000 * 4294967296 ^ 12 := by
    intro i hi
    obtain ⟨g1, g2, g3, g4⟩ := l4 i (by omega)
    rw [(cb_k_other j1.1.1 hb g1 (nb _ g4) hY2).2.1]
    exact b1 i hi
  have vg2 : ∀ i : Nat, (i : Int) < z (cw_g K (r g 1) 0) 5 → cb_v r z2 A2 (cw_g K (r P 2) i) = gv i := by
    intro i hi
    obtain ⟨g1, g2, g3, g4⟩ := l4 i (by omega)
    rw [(cb_k_other j1.1.1 hb g1 (nb _ g4) hY2).2.2]
    exact vg1 i hi
  have u2 : cb_u r z2 A2 b = 0 := (cb_u0 (k2.2 _ hb) k2.1 hb).mp ((cb_v0 (k2.2 _ hb) k2.1 hb).mpr hv2)
  have gr : r P 2 ≠ P := Ne.symm (cw_OG_ne hP l1)
  intro PP hPP
  have key : ∀ (k n : Nat) (z3 A3 : Nat → Nat → Int) (x : Int), n + (k : Int) = z (cw_g K (r g 1) 0) 5 → x = (n : Int) → cJ L K r z3 A3 → cF ρ S z A z3 A3 → (∀ i : Nat, (i : Int) < z (cw_g K (r g 1) 0) 5 → cb_u r z3 A3 (cw_g K (r P 2) i) ≤ 8000000000000 * 4294967296 ^ 12) → cb_u r z3 A3 b ≤ 8000000000000 * 4294967296 ^ 12 * 4294967296 ^ 12 * (n : Int) → (∀ i : Nat, (i : Int) < z (cw_g K (r g 1) 0) 5 → cb_v r z3 A3 (cw_g K (r P 2) i) = gv i) → cb_v r z3 A3 b = cS (fun i => gv i * cb_v r z A (cw_g K (r m 0) i)) n → PP z3 A3 x := by
    intro k
    induction k with
    | zero =>
      intro n z3 A3 x hk ex j3 F3 b3 u3 vg3 vs3
      have e0 : z3 (cw_g K (r g 1) 0) 5 = z (cw_g K (r g 1) 0) 5 := by rw [(F3 _ nS).1]
      refine hPP z3 A3 x ⟨hg0, s1, by omega, sq.1, by omega, by show hz_rI (z3 (cw_g K (r g 1) 0) 5); omega, fun _ => hQ z3 A3 j3 F3 (by rw [vs3, hgv, show (z (cw_g K (r g 1) 0) 5).toNat = n by omega]) ?_, fun c => absurd (show z3 (cw_g K (r g 1) 0) 5 ≤ x by omega) c⟩
      have nle : (n : Int) ≤ 20 := by omega
      exact Int.le_trans u3 (Int.mul_le_mul_of_nonneg_left nle (by decide))
    | succ k ih =>
      intro n z3 A3 x hk ex j3 F3 b3 u3 vg3 vs3
      subst ex
      have e0 : z3 (cw_g K (r g 1) 0) 5 = z (cw_g K (r g 1) 0) 5 := by rw [(F3 _ nS).1]
      have e9 : ((n : Int)).toNat = n := by omega
      obtain ⟨g1, g2, g3, g4⟩ := l4 n (by omega)
      obtain ⟨a1, a2, a3, a4⟩ := p4 n (by omega)
      have kg := (j3.1.2 _ g1).1
      have ka := (j3.1.2 _ a1).1
      refine hPP z3 A3 n ⟨hg0, s1, by omega, sq.1, by omega, by show hz_rI (z3 (cw_g K (r g 1) 0) 5); omega, fun c => absurd (show z3 (cw_g K (r g 1) 0) 5 ≤ (n : Int) from c) (by omega), fun _ => ⟨hP, l1, by omega, hm, p1, by omega, t1, ?_⟩⟩
      rw [e9]
      have am : ∀ c, ρ c = ρ P → cw_g K (r m 0) n ≠ c := fun c hc e => hmS (by rw [← a4, e, hc]; exact hPS)
      have gt : cw_g K (r P 2) n ≠ r P 4 := cg_ne g3 t3 (by simp; intro e; exact absurd e gr)
      refine wq_c0_putProduct j3.1 t1 g1 a1 gt (am _ t4) (by omega) (fun z4 A4 k4 hY4 hv4 _ => ⟨hb, ?_⟩)
      have j4 := cJ_Y j3 t1 k4 hY4
      have F4 : cF ρ S z A z4 A4 := cF_trans F3 (cF_Y h1 t1 (by rw [t4]; exact hPS) hY4)
      have um : cb_u r z3 A3 (cw_g K (r m 0) n) ≤ 4294967296 ^ 12 := by
        rw [(cF_big h1 F3 a1 (by rw [a4]; exact hmS)).1]
        exact cm_T_M h h3 hm hmT n (by omega)
      have ug := b3 n (by omega)
      have ut : cb_u r z4 A4 (r P 4) ≤ 8000000000000 * 4294967296 ^ 12 * 4294967296 ^ 12 := by
        have e1 : cb_u r z4 A4 (r P 4) = ((cb_v r z4 A4 (r P 4)).natAbs : Int) := by
          have := cb_u_nn r z4 A4 (r P 4)
          unfold cb_v
          split <;> omega
        have e2 : ∀ c, ((cb_v r z3 A3 c).natAbs : Int) = cb_u r z3 A3 c := by
          intro c
          have := cb_u_nn r z3 A3 c
          unfold cb_v
          split <;> omega
        rw [e1, hv4, Int.natAbs_mul, Int.natCast_mul, e2, e2]
        exact Int.mul_le_mul ug um (cb_u_nn _ _ _ _) (by decide)
      have ub4 : cb_u r z4 A4 b = cb_u r z3 A3 b := (cb_k_other j3.1.1 t1 hb (Ne.symm (nb _ t4)) hY4).2.1
      have nle : (n : Int) ≤ 19 := by omega
      have nb2 : 8000000000000 * 4294967296 ^ 12 * 4294967296 ^ 12 * (n : Int) ≤ 8000000000000 * 4294967296 ^ 12 * 4294967296 ^ 12 * 19 := Int.mul_le_mul_of_nonneg_left nle (by decide)
      have fits : (8000000000000 * 4294967296 ^ 12 * 4294967296 ^ 12 * 20 : Int) < 4294967296 ^ 32 := by decide
      have n1 : 8000000000000 * 4294967296 ^ 12 * 4294967296 ^ 12 * ((n + 1 : Nat) : Int) = 8000000000000 * 4294967296 ^ 12 * 4294967296 ^ 12 * (n : Int) + 8000000000000 * 4294967296 ^ 12 * 4294967296 ^ 12 := by
        rw [Int.natCast_add, Int.mul_add]
        rfl
      generalize hC : (8000000000000 * 4294967296 ^ 12 * 4294967296 ^ 12 : Int) = C at *
      refine wq_c0_plus j4.1 hb t1 (nb _ t4) (by rw [hbn, ub4]; omega) (fun z5 A5 k5 hY5 hv5 x1 e1 => ?_)
      have un : cb_u r z5 A5 b ≤ cb_u r z4 A4 b + cb_u r z4 A4 (r P 4) := by
        have x1' := cb_u_nn r z5 A5 b
        have x2' := cb_u_nn r z4 A4 b
        have x3' := cb_u_nn r z4 A4 (r P 4)
        unfold cb_v at hv5
        split at hv5 <;> split at hv5 <;> split at hv5 <;> omega
      refine ih (n + 1) z5 A5 x1 (by omega) (by omega) (cJ_Y j4 hb k5 hY5) (cF_trans F4 (cF_Y h1 hb hbS hY5)) (fun i hi => ?_) (by omega) (fun i hi => by
        obtain ⟨q1, q2, q3, q4⟩ := l4 i (by omega)
        rw [(cb_k_other j4.1.1 hb q1 (nb _ q4) hY5).2.2, (cb_k_other j3.1.1 t1 q1 (cg_ne q3 t3 (by simp; intro e; exact absurd e gr)) hY4).2.2]
        exact vg3 i hi) (by
        rw [hv5, hv4, (cb_k_other j3.1.1 t1 hb (Ne.symm (nb _ t4)) hY4).2.2, vs3, vg3 n (by omega), (cF_big h1 F3 a1 (by rw [a4]; exact hmS)).2.1]
        rfl)
      obtain ⟨q1, q2, q3, q4⟩ := l4 i (by omega)
      rw [(cb_k_other j4.1.1 hb q1 (nb _ q4) hY5).2.1, (cb_k_other j3.1.1 t1 q1 (cg_ne q3 t3 (by simp; intro e; exact absurd e gr)) hY4).2.1]
      exact b3 i hi
  exact key (z (cw_g K (r g 1) 0) 5).toNat 0 z2 A2 0 (by omega) rfl j2 F2 b2 (by rw [u2]; decide) vg2 hv2
end CP
