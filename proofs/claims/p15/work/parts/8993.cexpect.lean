section CI
variable {L : List Nat} {K : Nat → cw_K} {r r' : Nat → Nat → Nat} {z A : Nat → Nat → Int} {w : Nat → Nat × Nat} {ρ : Nat → Nat} {S : Nat → Prop} {h g R : Nat} {σ Am : Nat → Nat → Int}
set_option maxHeartbeats 4000000 in
theorem nc_BL {xN : Nat} (I : ci_I L K r w ρ z A h) (x2 : xN < 2) (W0 : wy_R K r h A Am) (C0 : ∀ t, t < 2 → ∀ i, i < 40 → Nat.gcd (A (r (cw_g K (r h 4) t) 0) i).natAbs (A (r (cw_g K (r h 4) t) 1) i).natAbs = 1) (Gx : sg_R K r (r h 13) σ z A) (G1 : ce_G K r h z A Am xN) : (∀ i, i < (z (cw_g K (r (r h 13) 1) xN) 0).toNat → wb (fun q => A (r (cw_g K (r h 4) xN) 1) (4 * i + q)) (A (r (cw_g K (r (r h 13) 1) xN) 2) i).toNat ≤ 99980001) ∧ ∀ a b, a < b → b < (z (cw_g K (r (r h 13) 1) xN) 0).toNat → A (r (cw_g K (r (r h 13) 1) xN) 6) a + A (r (cw_g K (r (r h 13) 1) xN) 2) a ≤ A (r (cw_g K (r (r h 13) 1) xN) 6) b := by
  obtain ⟨⟨-, sh, sv⟩, sg⟩ := id Gx
  -- own side, other side
  have own : ∀ t, t < 2 → z (cw_g K (r (r h 13) 1) t) 0 = σ 1 t ∧ ∀ i : Nat, (i : Int) < σ 1 t → A (r (cw_g K (r (r h 13) 1) t) 2) i = σ (12 + t) i ∧ A (r (cw_g K (r (r h 13) 1) t) 4) i = σ (16 + t) i ∧ A (r (cw_g K (r (r h 13) 1) t) 6) i = sl_f σ t i ∧ A (r (cw_g K (r (r h 13) 1) t) 7) i = cs_l (sl_f σ t) (σ (16 + t) i) := fun t ht => ⟨(sg t ht).1, fun i hi => ⟨((sg t ht).2 i hi).2.1, ((sg t ht).2 i hi).2.2.2, ((sh.1 t ht).2 i hi).1, ((sh.1 t ht).2 i hi).2⟩⟩
  have hBx : ∀ i, i < (z (cw_g K (r (r h 13) 1) xN) 0).toNat → wb (fun q => A (r (cw_g K (r h 4) xN) 1) (4 * i + q)) (A (r (cw_g K (r (r h 13) 1) xN) 2) i).toNat ≤ 99980001 := by
    intro i hi
    obtain ⟨o1, o2⟩ := own xN x2
    obtain ⟨⟨s0, s10⟩, -, s3⟩ := sv.1 xN x2
    have hi9 : (i : Int) < σ 1 xN := by omega
    have mi := (s3 i hi9).1
    rw [(o2 i hi9).1]
    have Wy := I.2.2.2.2.2.2.1 xN x2
    have g9 := G1 i (by rw [o1]; exact hi9)
    rw [(o2 i hi9).1] at g9
    obtain ⟨Bx, hBx⟩ : ∃ Bx : Int, Bx = wb (fun q => A (r (cw_g K (r h 4) xN) 1) (4 * i + q)) (σ (12 + xN) i).toNat := ⟨_, rfl⟩
    obtain ⟨b1, b2, b3⟩ := wb_spec (b := fun q => A (r (cw_g K (r h 4) xN) 1) (4 * i + q)) (n := (σ (12 + xN) i).toNat) (fun k hk => (W0 xN x2 (4 * i + k) (by omega)).1)
    rw [← hBx] at b1 b2 b3 ⊢
    obtain ⟨tt, htt⟩ : ∃ tt : Nat → Int, tt = fun k => Bx / A (r (cw_g K (r h 4) xN) 1) (4 * i + k) * A (r (cw_g K (r h 4) xN) 0) (4 * i + k) := ⟨_, rfl⟩
    have ttk : ∀ k, k < (σ (12 + xN) i).toNat → tt k * A (r (cw_g K (r h 4) xN) 1) (4 * i + k) = Bx * A (r (cw_g K (r h 4) xN) 0) (4 * i + k) := fun k hk => by
      have dv : A (r (cw_g K (r h 4) xN) 1) (4 * i + k) ∣ Bx := b2 k hk
      have cn := Int.ediv_mul_cancel dv
      rw [htt]
      show Bx / A (r (cw_g K (r h 4) xN) 1) (4 * i + k) * A (r (cw_g K (r h 4) xN) 0) (4 * i + k) * A (r (cw_g K (r h 4) xN) 1) (4 * i + k) = _
      have e1 : Bx / A (r (cw_g K (r h 4) xN) 1) (4 * i + k) * A (r (cw_g K (r h 4) xN) 0) (4 * i + k) * A (r (cw_g K (r h 4) xN) 1) (4 * i + k) = (Bx / A (r (cw_g K (r h 4) xN) 1) (4 * i + k) * A (r (cw_g K (r h 4) xN) 1) (4 * i + k)) * A (r (cw_g K (r h 4) xN) 0) (4 * i + k) := by grind
      rw [e1, cn]
    have sum : ∀ k, k ≤ (σ (12 + xN) i).toNat → wy_t (fun j => Am 49 (40 * xN + (4 * i + j))) (fun j => Am 50 (40 * xN + (4 * i + j))) k * Bx = wy_b (fun j => Am 50 (40 * xN + (4 * i + j))) k * cS tt k := by
      intro k
      induction k with
      | zero => intro _; show (0 : Int) * Bx = 1 * 0; omega
      | succ k ihk =>
        intro hk
        obtain ⟨u1, u2, u3⟩ := W0 xN x2 (4 * i + k) (by omega)
        exact wy_step (ihk (by omega)) (wy_share u1 u3 (ttk k (by omega)))
    have one9 := (wy_one (by omega) (fun k hk => (W0 xN x2 (4 * i + k) (by omega)).2.1) (sum _ (Nat.le_refl _))).mpr g9
    exact lb_int (a := fun k => A (r (cw_g K (r h 4) xN) 0) (4 * i + k)) (b := fun k => A (r (cw_g K (r h 4) xN) 1) (4 * i + k)) (t := tt) (m := (σ (12 + xN) i).toNat) (by omega) (fun k hk => by have q9 := Wy.2 (4 * i + k) (by omega); have q8 := (W0 xN x2 (4 * i + k) (by omega)).1; exact ⟨q8, q9.2.2⟩) (fun k hk => (Wy.2 (4 * i + k) (by omega)).1) (fun k hk => C0 xN x2 (4 * i + k) (by omega)) hBx ttk one9
  have hLx : ∀ a b, a < b → b < (z (cw_g K (r (r h 13) 1) xN) 0).toNat → A (r (cw_g K (r (r h 13) 1) xN) 6) a + A (r (cw_g K (r (r h 13) 1) xN) 2) a ≤ A (r (cw_g K (r (r h 13) 1) xN) 6) b := by
    intro a b hab hb
    obtain ⟨o1, o2⟩ := own xN x2
    rw [(o2 a (by omega)).2.2.1, (o2 a (by omega)).1, (o2 b (by omega)).2.2.1]
    exact (sh_L x2 sv).2.2.1 a b hab (by omega)
  exact ⟨hBx, hLx⟩
theorem nc_vals {t : Nat} {z' A' X0 X1 : Nat → Nat → Int} (t2 : t < 2) (Gx : sg_R K r (r h 13) σ z A) (e0 : X0 t = A (r (cw_g K (r h 4) t) 0)) (e1 : X1 t = A (r (cw_g K (r h 4) t) 1))
    (vals : ∀ d : Int, (d = -1 ∨ (0 ≤ d ∧ d / 512 < z (cw_g K (r (r h 13) 1) t) 0 ∧ d % 512 < A (r (cw_g K (r (r h 13) 1) t) 2) (d / 512).toNat)) → cb_v r z' A' (cw_g K (r (cw_g K (r h 5) t) 0) (cs_l (A (r (cw_g K (r (r h 13) 1) t) 6)) d).toNat) = wy_p (wy_f (A (r (cw_g K (r h 4) t) 0)) (A (r (cw_g K (r h 4) t) 1)) (A (r (cw_g K (r (r h 13) 1) t) 2)) (cw_tau (A (r (cw_g K (r (r h 13) 1) t) 4)) 10 d)) (z (cw_g K (r (r h 13) 1) t) 0).toNat) :
    (∀ e : Nat, (e : Int) < σ 0 1 → cb_v r z' A' (cw_g K (r (cw_g K (r h 5) t) 0) (cs_l (sl_f σ t) (σ (22 + t) e)).toNat) = rx_P σ X0 X1 t e) ∧ cb_v r z' A' (cw_g K (r (cw_g K (r h 5) t) 0) 0) = rx_1 σ X0 X1 t := by
  obtain ⟨⟨-, sh, sv⟩, sg⟩ := id Gx
  have p1' := (sg t t2).1
  have p2' : ∀ i : Nat, (i : Int) < σ 1 t → A (r (cw_g K (r (r h 13) 1) t) 2) i = σ (12 + t) i ∧ A (r (cw_g K (r (r h 13) 1) t) 4) i = σ (16 + t) i ∧ A (r (cw_g K (r (r h 13) 1) t) 6) i = sl_f σ t i := fun i hi => ⟨((sg t t2).2 i hi).2.1, ((sg t t2).2 i hi).2.2.2, ((sh.1 t t2).2 i hi).1⟩
  have sx := (sv.1 t t2).1
  have lnx := sh_L t2 sv
  refine ⟨fun e he => ?_, ?_⟩
  · have v := sv.2.2 t t2 e he
    have q9 := vals (σ (22 + t) e) (by
      rcases v with v | ⟨v1, v2, v3⟩
      · exact Or.inl v
      · exact Or.inr ⟨v1, by rw [p1']; exact v2, by rw [(p2' _ (by omega)).1]; exact v3⟩)
    have el : cs_l (A (r (cw_g K (r (r h 13) 1) t) 6)) (σ (22 + t) e) = cs_l (sl_f σ t) (σ (22 + t) e) := cs_l_congr (by
      rcases v with v | ⟨v1, v2, v3⟩
      · exact Or.inl v
      · exact Or.inr (p2' _ (by omega)).2.2)
    rw [el, p1'] at q9
    rw [q9]
    unfold rx_P
    have hdx : rq_d (σ 1 t).toNat (σ (16 + t)) := rq_L_d lnx
    refine wy_p_congr (fun i hi => ?_)
    have et : cw_tau (A (r (cw_g K (r (r h 13) 1) t) 4)) 10 (σ (22 + t) e) = cw_tau (σ (16 + t)) 10 (σ (22 + t) e) := cw_tau_congr hdx (fun k hk => (p2' k (by omega)).2.1) 10 _ (by
      rcases v with v | ⟨v1, v2, v3⟩
      · exact Or.inl v
      · exact Or.inr ⟨v1, by omega⟩)
    unfold wy_f
    rw [et, (p2' i (by omega)).1, e0, e1]
  · have q9 := vals (-1) (Or.inl rfl)
    rw [cw_tau_no] at q9
    have e9 : (cs_l (A (r (cw_g K (r (r h 13) 1) t) 6)) (-1)).toNat = 0 := by unfold cs_l; rw [if_pos rfl]; rfl
    rw [e9, p1'] at q9
    rw [q9]
    unfold rx_1
    refine wy_p_congr (fun i hi => ?_)
    unfold wy_f
    rw [if_pos rfl, if_pos rfl, (p2' i (by omega)).1, e1]
theorem nu_fit2 {c u : Int} (hc : 0 < c ∧ c < 4294967296) (u0 : 0 ≤ u) (hu : u ≤ 4294967296 ^ 12 * 4294967296 ^ 12) : c * u < 4294967296 ^ 32 := by
  have q1 : c * u ≤ 4294967296 * (4294967296 ^ 12 * 4294967296 ^ 12) := Int.mul_le_mul (by omega) hu u0 (by decide)
  have q2 : (4294967296 : Int) * (4294967296 ^ 12 * 4294967296 ^ 12) < 4294967296 ^ 32 := by decide
  exact Int.lt_of_le_of_lt q1 q2
theorem cb_uabs (r : Nat → Nat → Nat) (z A : Nat → Nat → Int) (b : Nat) : cb_u r z A b = ((cb_v r z A b).natAbs : Int) := by
  have := cb_u_nn r z A b
  unfold cb_v
  split <;> omega
/-- lines and weights: the sum, end by end -/
theorem nc_sum {z2 A2 X0 X1 : Nat → Nat → Int} (Gx : sg_R K r (r h 13) σ z2 A2)
    (v0 : ∀ e : Nat, (e : Int) < σ 0 1 → cb_v r z2 A2 (cw_g K (r (cw_g K (r h 5) 0) 0) (cs_l (sl_f σ 0) (σ (22 + 0) e)).toNat) = rx_P σ X0 X1 0 e)
    (v1 : ∀ e : Nat, (e : Int) < σ 0 1 → cb_v r z2 A2 (cw_g K (r (cw_g K (r h 5) 1) 0) (cs_l (sl_f σ 1) (σ (22 + 1) e)).toNat) = rx_P σ X0 X1 1 e) :
    cS (fun i => cg_v K r z2 A2 (r h 13) (r (cw_g K (r h 5) 1) 0) 0 (z2 (cw_g K (r (r h 13) 1) 1) 5).toNat i * cb_v r z2 A2 (cw_g K (r (cw_g K (r h 5) 0) 0) i)) (z2 (cw_g K (r (r h 13) 1) 0) 5).toNat = rx_V σ X0 X1 := by
  obtain ⟨⟨-, sh, sv⟩, sg⟩ := id Gx
  have tot : ∀ t, t < 2 → sl_f σ t (σ 1 t).toNat ≤ 20 := fun t ht => by have := (sv.1 t ht).2.1; unfold sl_f; omega
  have le9 : ∀ t, t < 2 → ∀ e : Nat, (e : Int) < σ 0 1 → 0 ≤ cs_l (sl_f σ t) (σ (22 + t) e) ∧ cs_l (sl_f σ t) (σ (22 + t) e) < sl_f σ t (σ 1 t).toNat := fun t ht e he => by
    have lt9 := sh_L ht sv
    have st := (sv.1 t ht).1
    unfold cs_l
    rcases sv.2.2 t ht e he with v | ⟨v1, v2, v3⟩
    · rw [if_pos v]
      have := lt9.1
      omega
    · rw [if_neg (by omega)]
      have q9 := lt9.2.1 (σ (22 + t) e / 512).toNat (by omega)
      have m0 := Int.emod_nonneg (σ (22 + t) e) (show (512 : Int) ≠ 0 by decide)
      omega
  have t0 := tot 0 (by omega)
  have t1 := tot 1 (by omega)
  have l0 := (sh_L (t := 0) (by omega) sv).1
  have l1 := (sh_L (t := 1) (by omega) sv).1
  rw [(sh.1 0 (by omega)).1, (sh.1 1 (by omega)).1]
  have inner : ∀ i, i < (sl_f σ 0 (σ 1 0).toNat).toNat → cg_v K r z2 A2 (r h 13) (r (cw_g K (r h 5) 1) 0) 0 (sl_f σ 1 (σ 1 1).toNat).toNat i = cS (fun e => if (i : Int) = cs_l (sl_f σ 0) (σ 22 e) then sp_we σ e * cb_v r z2 A2 (cw_g K (r (cw_g K (r h 5) 1) 0) (cs_l (sl_f σ 1) (σ 23 e)).toNat) else 0) (σ 0 1).toNat := fun i hi => by
    have e1 : cg_v K r z2 A2 (r h 13) (r (cw_g K (r h 5) 1) 0) 0 (sl_f σ 1 (σ 1 1).toNat).toNat i = cS (fun j => (cS (fun e => if (i : Int) = cs_l (sl_f σ 0) (σ 22 e) ∧ (j : Int) = cs_l (sl_f σ 1) (σ 23 e) then sp_we σ e else 0) (σ 0 1).toNat) * cb_v r z2 A2 (cw_g K (r (cw_g K (r h 5) 1) 0) j)) (sl_f σ 1 (σ 1 1).toNat).toNat := cS_congr (fun j hj => by
      show cg_w K r A2 (r h 13) 0 i j * cb_v r z2 A2 (cw_g K (r (cw_g K (r h 5) 1) 0) j) = _
      congr 1
      unfold cg_w
      rw [if_pos rfl, sh.2.1 i j (by omega) (by omega)]
      rfl)
    rw [e1]
    exact rv_gain (fun e he => by have q9 : 0 ≤ cs_l (sl_f σ 1) (σ 23 e) ∧ cs_l (sl_f σ 1) (σ 23 e) < sl_f σ 1 (σ 1 1).toNat := le9 1 (by omega) e (by omega); omega)
  have step : cS (fun i => cg_v K r z2 A2 (r h 13) (r (cw_g K (r h 5) 1) 0) 0 (sl_f σ 1 (σ 1 1).toNat).toNat i * cb_v r z2 A2 (cw_g K (r (cw_g K (r h 5) 0) 0) i)) (sl_f σ 0 (σ 1 0).toNat).toNat = cS (fun i => (cS (fun e => if (i : Int) = cs_l (sl_f σ 0) (σ 22 e) then sp_we σ e * cb_v r z2 A2 (cw_g K (r (cw_g K (r h 5) 1) 0) (cs_l (sl_f σ 1) (σ 23 e)).toNat) else 0) (σ 0 1).toNat) * cb_v r z2 A2 (cw_g K (r (cw_g K (r h 5) 0) 0) i)) (sl_f σ 0 (σ 1 0).toNat).toNat := cS_congr (fun i hi => by
    show cg_v K r z2 A2 (r h 13) (r (cw_g K (r h 5) 1) 0) 0 (sl_f σ 1 (σ 1 1).toNat).toNat i * cb_v r z2 A2 (cw_g K (r (cw_g K (r h 5) 0) 0) i) = _
    rw [inner i hi])
  rw [step, rx_sum (a := fun e => cs_l (sl_f σ 0) (σ 22 e)) (w := fun e => sp_we σ e * cb_v r z2 A2 (cw_g K (r (cw_g K (r h 5) 1) 0) (cs_l (sl_f σ 1) (σ 23 e)).toNat)) (pv := fun i => cb_v r z2 A2 (cw_g K (r (cw_g K (r h 5) 0) 0) i)) (fun e he => by have q9 : 0 ≤ cs_l (sl_f σ 0) (σ 22 e) ∧ cs_l (sl_f σ 0) (σ 22 e) < sl_f σ 0 (σ 1 0).toNat := le9 0 (by omega) e (by omega); omega)]
  unfold rx_V
  refine cS_congr (fun e he => ?_)
  show sp_we σ e * cb_v r z2 A2 (cw_g K (r (cw_g K (r h 5) 1) 0) (cs_l (sl_f σ 1) (σ 23 e)).toNat) * cb_v r z2 A2 (cw_g K (r (cw_g K (r h 5) 0) 0) (cs_l (sl_f σ 0) (σ 22 e)).toNat) = sp_we σ e * (rx_P σ X0 X1 0 e * rx_P σ X0 X1 1 e)
  rw [← v0 e (by omega), ← v1 e (by omega), Int.mul_assoc, Int.mul_comm (cb_v r z2 A2 (cw_g K (r (cw_g K (r h 5) 1) 0) _))]
theorem ci_S1_c {cc : Nat} (hA : ∀ a, cw_O L K 0 a → cw_A L K 0 (r a 0)) (hc9 : cw_A L K 2 cc) (hS : ci_S1 L K r w ρ) : ci_S1 L K r w (lp_U ρ cc 98) := by
  obtain ⟨hdg, h1, h2, h3, h4, h6, h7, h8, h9⟩ := hS
  have eO : ∀ t a, cw_O L K t a → ¬ t = 11 → lp_U ρ cc 98 a = ρ a := fun t a ha ht => lp_U_other (cw_OA_ne ha hc9)
  have eA : ∀ t a, cw_A L K t a → ¬ t = 2 → lp_U ρ cc 98 a = ρ a := fun t a ha ht => lp_U_other (fun e => ht (cw_A_ne (by rw [e] at ha; exact ha) hc9))
  have kA : ∀ c t n a k, cw_O L K c a → ¬ c = 11 → ¬ t = 2 → cg_A L K r w ρ t n a k → cg_A L K r w (lp_U ρ cc 98) t n a k := fun c t n a k ha hc ht q => ⟨q.1, q.2.1, q.2.2.1, by rw [eA _ _ q.1 ht, eO _ _ ha hc]; exact q.2.2.2⟩
  have kO : ∀ c t a k, cw_O L K c a → ¬ c = 11 → ¬ t = 11 → cg_O L K r w ρ t a k → cg_O L K r w (lp_U ρ cc 98) t a k := fun c t a k ha hc ht q => ⟨q.1, q.2.1, by rw [eO _ _ q.1 ht, eO _ _ ha hc]; exact q.2.2⟩
  have kB : ∀ c n a k, cw_O L K c a → ¬ c = 11 → cg_B L K r w ρ n a k → cg_B L K r w (lp_U ρ cc 98) n a k := fun c n a k ha hc q => ⟨q.1, q.2.1, q.2.2.1, by rw [eO _ _ q.1 (by decide), eO _ _ ha hc]; exact q.2.2.2⟩
  have kL : ∀ c N n a k, cw_O L K c a → ¬ c = 11 → cg_L L K r w ρ N n a k → cg_L L K r w (lp_U ρ cc 98) N n a k := fun c N n a k ha hc q => ⟨q.1, q.2.1, q.2.2.1, fun i hi => by
    have q9 := q.2.2.2 i hi
    exact ⟨q9.1, q9.2.1, q9.2.2.1, by rw [eO _ _ q9.1 (by decide), eO _ _ ha hc]; exact q9.2.2.2⟩⟩
  refine ⟨hdg, ⟨fun a ha => ?_, fun a ha => kB 1 _ _ _ ha (by decide) (h1.2 a ha)⟩, fun a ha => ?_, fun a ha => ?_, fun a ha => ?_, fun a ha => ?_, fun a ha => ?_, fun a ha => ?_, fun a ha => ?_⟩
  · rw [eA _ _ (hA a ha) (by decide), eO _ _ ha (by decide)]; exact h1.1 a ha
  · have q := h2 a ha
    refine ⟨kA 2 _ _ _ _ ha (by decide) (by decide) q.1, ⟨q.2.1.1, q.2.1.2.1, fun i hi => ?_⟩, ⟨q.2.2.1, q.2.2.2.1, fun i hi => ?_⟩⟩
    · have q9 := q.2.1.2.2 i hi
      exact ⟨q9.1, q9.2.1, by rw [eO _ _ q9.1 (by decide), eO _ _ ha (by decide)]; exact q9.2.2⟩
    · have q9 := q.2.2.2.2 i hi
      exact ⟨q9.1, q9.2.1, q9.2.2.1, by rw [eA _ _ q9.1 (by decide), eO _ _ ha (by decide)]; exact q9.2.2.2⟩
  · have q := h3 a ha
    exact ⟨kL 3 _ _ _ _ ha (by decide) q.1, kB 3 _ _ _ ha (by decide) q.2⟩
  · have q := h4 a ha
    exact ⟨kB 4 _ _ _ ha (by decide) q.1, kB 4 _ _ _ ha (by decide) q.2.1, kB 4 _ _ _ ha (by decide) q.2.2.1, kB 4 _ _ _ ha (by decide) q.2.2.2.1, kO 4 _ _ _ ha (by decide) (by decide) q.2.2.2.2⟩
  · have q := h6 a ha
    exact ⟨kA 6 _ _ _ _ ha (by decide) (by decide) q.1, kA 6 _ _ _ _ ha (by decide) (by decide) q.2.1, kL 6 _ _ _ _ ha (by decide) q.2.2.1, kB 6 _ _ _ ha (by decide) q.2.2.2.1, kB 6 _ _ _ ha (by decide) q.2.2.2.2⟩
  · have q := h7 a ha
    exact ⟨kA 7 _ _ _ _ ha (by decide) (by decide) q.1, kA 7 _ _ _ _ ha (by decide) (by decide) q.2.1, kA 7 _ _ _ _ ha (by decide) (by decide) q.2.2.1, kA 7 _ _ _ _ ha (by decide) (by decide) q.2.2.2.1, kA 7 _ _ _ _ ha (by decide) (by decide) q.2.2.2.2.1, kA 7 _ _ _ _ ha (by decide) (by decide) q.2.2.2.2.2⟩
  · have q := h8 a ha
    exact ⟨kL 8 _ _ _ _ ha (by decide) q.1, kA 8 _ _ _ _ ha (by decide) (by decide) q.2.1, kA 8 _ _ _ _ ha (by decide) (by decide) q.2.2.1, kA 8 _ _ _ _ ha (by decide) (by decide) q.2.2.2.1, kB 8 _ _ _ ha (by decide) q.2.2.2.2.1, kB 8 _ _ _ ha (by decide) q.2.2.2.2.2.1, kB 8 _ _ _ ha (by decide) q.2.2.2.2.2.2.1, kO 8 _ _ _ ha (by decide) (by decide) q.2.2.2.2.2.2.2⟩
  · have q := h9 a ha
    exact ⟨kA 9 _ _ _ _ ha (by decide) (by decide) q.1, kA 9 _ _ _ _ ha (by decide) (by decide) q.2.1, kA 9 _ _ _ _ ha (by decide) (by decide) q.2.2⟩
set_option maxHeartbeats 8000000 in
theorem wy_c11_expect (I : ci_I L K r w ρ z A h) (W9 : z h 14 = 1 → wy_R K r h A Am) (G : z h 14 = 1 → sg_R K r (r h 13) σ z A) (hcm : z h 14 = 1 → 1 ≤ sp_cm σ (σ 0 1).toNat) (hcop : z h 14 = 1 → ∀ t, t < 2 → ∀ i, i < 40 → Nat.gcd (A (r (cw_g K (r h 4) t) 0) i).natAbs (A (r (cw_g K (r h 4) t) 1) i).natAbs = 1) {Q : (Nat → Nat → Int) → (Nat → Nat → Int) → Prop} {X : String → (Nat → Nat → Int) → (Nat → Nat → Int) → Prop} (hQ : (z h 14 = 1 ∧ ce_G K r h z A Am 0 ∧ ce_G K r h z A Am 1) → ∀ z' A' : Nat → Nat → Int, ci_I L K r w ρ z' A' h → z' (r (r h 0) 2) 1 = z (r (r h 0) 2) 1 → ci_E K r ρ h z A z' A' → z' (cw_g K (r h 9) 1) 2 = 1 → nc_O K r h 1 z A z' A' → (z' h 2 = z h 2 ∧ A' (r h 1) = A (r h 1)) → nu_L (cb_v r z' A' (r (cw_g K (r h 9) 1) 0)) (cb_v r z' A' (r (cw_g K (r h 9) 1) 1)) (rx_V σ (fun t => A (r (cw_g K (r h 4) t) 0)) (fun t => A (r (cw_g K (r h 4) t) 1))) (sp_cm σ (σ 0 1).toNat * (rx_1 σ (fun t => A (r (cw_g K (r h 4) t) 0)) (fun t => A (r (cw_g K (r h 4) t) 1)) 0 * rx_1 σ (fun t => A (r (cw_g K (r h 4) t) 0)) (fun t => A (r (cw_g K (r h 4) t) 1)) 1)) → Q z' A') (hX : ¬ (z h 14 = 1 ∧ ce_G K r h z A Am 0 ∧ ce_G K r h z A Am 1) → X "java/lang/IllegalStateException" z A) : wp_c11_expect L K z r A h Q X := by
  obtain ⟨hdg, h1, h2, h3, h4, h6, h7, h8, h9⟩ := id I.1
  obtain ⟨⟨a1, a2⟩, -, ⟨c1, c2, c3⟩, -, -, -, ⟨g1, g2, g3⟩, -, -, ⟨k1, k2⟩, ⟨l1, l2, l3⟩, -, ⟨n1, n2, n3, n4⟩, ⟨o1, o2, o3, o4⟩, -⟩ := id I.2.1
  have pg := (ci_g I).2
  have gg := I.2.2.2.2.1
  have no : ¬ (z h 14 = 1 ∧ ce_G K r h z A Am 0 ∧ ce_G K r h z A Am 1) → wp_c11_expect_23 L K z r A Q X := hX
  refine ⟨a1, by omega, fun c => no (fun q => by have := q.1; omega), fun c => ?_⟩
  have hg : z h 14 = 1 := by omega
  refine wl_c11_isGood (p := 0) I (Or.inl rfl) hg (W9 hg) (fun G1 => ⟨by decide, fun q => absurd q (by decide), fun _ => ?_⟩) (fun n1 => ⟨by decide, fun _ => no (fun q => n1 q.2.1), fun q => absurd rfl q⟩)
  refine wl_c11_isGood (p := 1) I (Or.inr rfl) hg (W9 hg) (fun G2 => ⟨by decide, fun _ => ?_, fun q => absurd q (by decide)⟩) (fun n2 => ⟨by decide, fun q => absurd rfl q, fun _ => no (fun q => n2 q.2.2)⟩)
  have Gx := G hg
  have W0 := W9 hg
  have C0 := hcop hg
  have hF0 := I.2.2.2.2.2.1 hg
  obtain ⟨bA, lA⟩ := nc_BL (xN := 0) I (by omega) W0 C0 Gx G1
  obtain ⟨bB, lB⟩ := nc_BL (xN := 1) I (by omega) W0 C0 Gx G2
  refine wz_c11_spreadWay (p := 0) I (Or.inl rfl) hg bA lA (fun z1 A1 I1 zh1 zw1 dd1 F1 vals0 => ?_)
  have hg1 : z1 h 14 = 1 := by rw [zh1]; exact hg
  have F1 : cF ρ (fun q => q = 3 ∨ q = 5) z A z1 A1 := F1
  have Gx1 : sg_R K r (r h 13) σ z1 A1 := sg_keepF h2 h7 hF0.1 F1 (by show ¬ (_ ∨ _); omega) Gx
  obtain ⟨-, -, -, -, -, ⟨fa, fb, fc⟩, -⟩ := id I.2.1
  obtain ⟨u1, u2⟩ := fc 1 (by omega)
  obtain ⟨w1', w2', -⟩ := h9 _ u1
  have wy0 : A1 (r (cw_g K (r h 4) 1) 0) = A (r (cw_g K (r h 4) 1) 0) := (F1 _ (by rw [w1'.2.2.2, u2]; show ¬ (_ ∨ _); omega)).2
  have wy1 : A1 (r (cw_g K (r h 4) 1) 1) = A (r (cw_g K (r h 4) 1) 1) := (F1 _ (by rw [w2'.2.2.2, u2]; show ¬ (_ ∨ _); omega)).2
  have sdB := (h2 _ hF0.1).2.1.2.2 1 (by omega)
  obtain ⟨-, e2', -, e4', e6', -⟩ := h7 _ sdB.1
  have zsB : z1 (cw_g K (r (r h 13) 1) 1) = z (cw_g K (r (r h 13) 1) 1) := (F1 _ (by rw [sdB.2.2]; show ¬ (_ ∨ _); omega)).1
  have a2B : A1 (r (cw_g K (r (r h 13) 1) 1) 2) = A (r (cw_g K (r (r h 13) 1) 1) 2) := (F1 _ (by rw [e2'.2.2.2, sdB.2.2]; show ¬ (_ ∨ _); omega)).2
  have a6B : A1 (r (cw_g K (r (r h 13) 1) 1) 6) = A (r (cw_g K (r (r h 13) 1) 1) 6) := (F1 _ (by rw [e6'.2.2.2, sdB.2.2]; show ¬ (_ ∨ _); omega)).2
  refine wz_c11_spreadWay (p := 1) I1 (Or.inr rfl) hg1 (by show ∀ i, i < (z1 (cw_g K (r (r h 13) 1) 1) 0).toNat → wb (fun q => A1 (r (cw_g K (r h 4) 1) 1) (4 * i + q)) (A1 (r (cw_g K (r (r h 13) 1) 1) 2) i).toNat ≤ 99980001; rw [zsB, a2B, wy1]; exact bB) (by show ∀ a b, a < b → b < (z1 (cw_g K (r (r h 13) 1) 1) 0).toNat → A1 (r (cw_g K (r (r h 13) 1) 1) 6) a + A1 (r (cw_g K (r (r h 13) 1) 1) 2) a ≤ A1 (r (cw_g K (r (r h 13) 1) 1) 6) b; rw [zsB, a2B, a6B]; exact lB) (fun z2 A2 I2 zh2 zw2 dd2 F2 vals1 => ⟨g1, by omega, by omega, k1, ?_⟩)
  have F2 : cF ρ (fun q => q = 4 ∨ q = 6) z1 A1 z2 A2 := F2
  obtain ⟨X0, hX0⟩ : ∃ X0 : Nat → Nat → Int, X0 = fun t => A (r (cw_g K (r h 4) t) 0) := ⟨_, rfl⟩
  obtain ⟨X1, hX1⟩ : ∃ X1 : Nat → Nat → Int, X1 = fun t => A (r (cw_g K (r h 4) t) 1) := ⟨_, rfl⟩
  rw [← hX0, ← hX1] at hQ
  obtain ⟨pv0, po0⟩ := nc_vals (t := 0) (X0 := X0) (X1 := X1) (by omega) Gx (by rw [hX0]) (by rw [hX1]) vals0
  obtain ⟨pv1, po1⟩ := nc_vals (t := 1) (X0 := X0) (X1 := X1) (by omega) Gx1 (by rw [hX0, wy0]) (by rw [hX1, wy1]) vals1
  have Gx2 : sg_R K r (r h 13) σ z2 A2 := sg_keepF h2 h7 hF0.1 F2 (by show ¬ (_ ∨ _); omega) Gx1
  have m0 : ∀ i, i < 20 → cb_v r z2 A2 (cw_g K (r (cw_g K (r h 5) 0) 0) i) = cb_v r z1 A1 (cw_g K (r (cw_g K (r h 5) 0) 0) i) := fun i hi => by
    obtain ⟨⟨y1, y2, y3, y4⟩, -⟩ := h3 _ (g3 0 (by omega)).1
    exact (cF_big h1 F2 (y4 i hi).1 (by rw [(y4 i hi).2.2.2, (g3 0 (by omega)).2]; show ¬ (_ ∨ _); omega)).2.1
  have pv0' : ∀ e : Nat, (e : Int) < σ 0 1 → cb_v r z2 A2 (cw_g K (r (cw_g K (r h 5) 0) 0) (cs_l (sl_f σ 0) (σ (22 + 0) e)).toNat) = rx_P σ X0 X1 0 e := fun e he => by
    rw [← pv0 e he]
    have sv := Gx.1.2.2
    have lt9 := sh_L (t := 0) (by omega) sv
    have t20 : sl_f σ 0 (σ 1 0).toNat ≤ 20 := by have := (sv.1 0 (by omega)).2.1; unfold sl_f; omega
    refine m0 _ ?_
    have st := (sv.1 0 (by omega)).1
    unfold cs_l
    rcases sv.2.2 0 (by omega) e he with v | ⟨v1, v2, v3⟩
    · rw [if_pos v]; decide
    · rw [if_neg (by omega)]
      have q9 := lt9.2.1 (σ (22 + 0) e / 512).toNat (by omega)
      have m9 := Int.emod_nonneg (σ (22 + 0) e) (show (512 : Int) ≠ 0 by decide)
      omega
  have po0' : cb_v r z2 A2 (cw_g K (r (cw_g K (r h 5) 0) 0) 0) = rx_1 σ X0 X1 0 := by rw [m0 0 (by omega)]; exact po0
  have sumV := nc_sum (X0 := X0) (X1 := X1) Gx2 pv0' pv1
  have hg2 : z2 h 14 = 1 := by rw [zh2]; exact hg1
  have hF2 := I2.2.2.2.2.2.1 hg2
  obtain ⟨p1, p2⟩ := g3 0 (by omega)
  obtain ⟨q1, q2⟩ := g3 1 (by omega)
  obtain ⟨R1, R2⟩ := l3 1 (by omega)
  have J2 := I2.2.2.1
  obtain ⟨-, -, -, ⟨pc1, pc2, pc3, pc4⟩, -⟩ := id I.2.1
  have hnp : h ≠ r h 1 := cw_OA_ne a1 pc1
  have eO : ∀ t a, cw_O L K t a → ¬ t = 11 → lp_U (lp_U ρ h 99) (r h 1) 98 a = ρ a := fun t a ha ht => by rw [lp_U_other (cw_OA_ne ha pc1), lp_U_other (cw_O_ne ha a1 ht)]
  obtain ⟨-, h1', h2', h3', h4', h6', h7', h8', h9'⟩ := ci_S1_c (fun a ha => (J2.1.1.1 a ha).1) pc1 (ci_S1_h (fun a ha => (J2.1.1.1 a ha).1) a1 I.1)
  show wp_c6_meet L K z2 r A2 (r h 8) (r h 13) (cw_g K (r h 5) 0) (cw_g K (r h 5) 1) (r h 11) _
  refine wy_c6_meet (ρ := lp_U (lp_U ρ h 99) (r h 1) 98) (S := fun q => q = 0 ∨ q = 11) J2 h1' h2' h3' h6' h7' k1 (by rw [eO _ _ k1 (by decide), k2]; exact Or.inr rfl) hF2 (by rw [eO _ _ hF2.1 (by decide)]; omega) p1 (by rw [eO _ _ p1 (by decide), p2]; omega) (I2.2.2.2.2.2.2.2.1 0 (by omega)) q1 (by rw [eO _ _ q1 (by decide), q2]; omega) (I2.2.2.2.2.2.2.2.1 1 (by omega)) n1 n2 (by rw [eO _ _ n1 (by decide), n4, a2]; exact Or.inl rfl) (by rw [eO _ _ n1 (by decide), eO _ _ k1 (by decide), n4, a2, k2]; decide) (fun z3 A3 J3 F3 sum3 _ => ?_)
  have zh3 : z3 h = z2 h := (F3 h (by rw [lp_U_other hnp, lp_U_same]; omega)).1
  have pr3 : A3 (r h 1) = A2 (r h 1) := (F3 _ (by rw [lp_U_same]; omega)).2
  have F3r : cF ρ (fun q => q = 0 ∨ q = 11) z2 A2 z3 A3 := fun a ha => F3 a (by
    have : a ≠ h := fun e => ha (by rw [e, a2]; exact Or.inl rfl)
    have n9 : a ≠ r h 1 := fun e => ha (by rw [e, pc4, a2]; exact Or.inl rfl)
    rw [lp_U_other n9, lp_U_other this]
    exact ha)
  obtain ⟨⟨y1, y2, y3, y4⟩, -⟩ := h3 _ p1
  obtain ⟨⟨x1, x2, x3, x4⟩, -⟩ := h3 _ q1
  have T0 := I2.2.2.2.2.2.2.2.1 0 (by omega) 0 (by omega)
  have T1 := I2.2.2.2.2.2.2.2.1 1 (by omega) 0 (by omega)
  have e0 : z3 (cw_g K (r (cw_g K (r h 5) 0) 0) 0) = z2 (cw_g K (r (cw_g K (r h 5) 0) 0) 0) := (F3r _ (by rw [(y4 0 (by omega)).2.2.2, p2]; omega)).1
  have e1 : z3 (cw_g K (r (cw_g K (r h 5) 1) 0) 0) = z2 (cw_g K (r (cw_g K (r h 5) 1) 0) 0) := (F3r _ (by rw [(x4 0 (by omega)).2.2.2, q2]; omega)).1
  refine ⟨by omega, p1, y1, by show (0 : Int) ≤ 0 ∧ (0 : Int) < (cw_n K (r (cw_g K (r h 5) 0) 0) : Int); omega, by omega, q1, x1, by show (0 : Int) ≤ 0 ∧ (0 : Int) < (cw_n K (r (cw_g K (r h 5) 1) 0) : Int); omega, o1, ?_⟩
  show wp_c0_putProduct L K z3 r A3 (r h 12) (cw_g K (r (cw_g K (r h 5) 0) 0) 0) (cw_g K (r (cw_g K (r h 5) 1) 0) 0) _
  have na : ∀ b, cw_O L K 0 b → ρ b = 5 ∨ ρ b = 6 → b ≠ r h 12 := fun b hb e q => by
    rw [q, o4, a2] at e
    omega
  refine wq_c0_putProduct J3.1 o1 (y4 0 (by omega)).1 (x4 0 (by omega)).1 (na _ (y4 0 (by omega)).1 (by rw [(y4 0 (by omega)).2.2.2, p2]; omega)) (na _ (x4 0 (by omega)).1 (by rw [(x4 0 (by omega)).2.2.2, q2]; omega)) (by rw [e0, e1]; omega) (fun z4 A4 b4 Y4 vw4 _ => ⟨l1, by omega, hF2.1, R1, ?_⟩)
  have J4 : cJ L K r z4 A4 := cJ_Y J3 o1 b4 Y4
  show wp_c4_put L K z4 r A4 (cw_g K (r h 9) 1) (r h 11) (r h 12) (z4 (r h 13) 2) _
  have ls := (J4.1.2 _ n1).1
  have lw := (J4.1.2 _ o1).1
  have sumw : r h 11 ≠ r h 12 := fun e => by
    have q := n3
    rw [e, o3] at q
    simp at q
  have v11 : cb_v r z4 A4 (r h 11) = rx_V σ X0 X1 := by
    rw [(cb_k_other J3.1.1 o1 n1 sumw Y4).2.2, sum3]
    exact sumV
  have F3g : z3 (r h 13) = z2 (r h 13) := (F3r _ (by show ¬ (_ ∨ _); omega)).1
  have zg4 : z4 (r h 13) 2 = sp_cm σ (σ 0 1).toNat := by
    rw [Y4.1 _ (cw_O_ne hF2.1 o1 (by decide)), F3g]
    exact Gx2.1.2.1.2.2
  have cmr : 0 < sp_cm σ (σ 0 1).toNat ∧ sp_cm σ (σ 0 1).toNat < 4294967296 := by
    have q9 := hF0.2.2.2.2
    rw [Gx.1.2.1.2.2] at q9
    have q8 := hcm hg
    omega
  have w0 : cb_v r z3 A3 (cw_g K (r (cw_g K (r h 5) 0) 0) 0) = rx_1 σ X0 X1 0 := by
    rw [(cF_big h1 F3r (y4 0 (by omega)).1 (by rw [(y4 0 (by omega)).2.2.2, p2]; show ¬ (_ ∨ _); omega)).2.1]
    exact po0'
  have w1 : cb_v r z3 A3 (cw_g K (r (cw_g K (r h 5) 1) 0) 0) = rx_1 σ X0 X1 1 := by
    rw [(cF_big h1 F3r (x4 0 (by omega)).1 (by rw [(x4 0 (by omega)).2.2.2, q2]; show ¬ (_ ∨ _); omega)).2.1]
    exact po1
  have v12 : cb_v r z4 A4 (r h 12) = rx_1 σ X0 X1 0 * rx_1 σ X0 X1 1 := by rw [vw4, w0, w1]
  have sv := Gx.1.2.2
  have P0 : 0 < rx_1 σ X0 X1 0 := rx_1_pos (by omega) sv (fun i hi => by rw [hX1]; exact (W0 0 (by omega) i hi).1)
  have P1 : 0 < rx_1 σ X0 X1 1 := rx_1_pos (by omega) sv (fun i hi => by rw [hX1]; exact (W0 1 (by omega) i hi).1)
  have vpp : 0 < cb_v r z4 A4 (r h 12) := by rw [v12]; exact Int.mul_pos P0 P1
  have sg0 : z4 (r h 12) 2 = 0 := nu_sg (b4.2 _ o1) vpp
  have pp0 : 0 < cb_u r z4 A4 (r h 12) := nu_up sg0 vpp
  have bnd : ∀ t, t < 2 → rx_1 σ X0 X1 t ≤ 4294967296 ^ 12 := fun t ht => by
    have M := cm_T_M I2.2.2.1 h3 (g3 t ht).1 (I2.2.2.2.2.2.2.2.1 t ht) 0 (by omega)
    have e9 : cb_v r z2 A2 (cw_g K (r (cw_g K (r h 5) t) 0) 0) = rx_1 σ X0 X1 t := by
      have e : t = 0 ∨ t = 1 := by omega
      rcases e with e | e <;> subst e
      · exact po0'
      · exact po1
    have ea := cb_uabs r z2 A2 (cw_g K (r (cw_g K (r h 5) t) 0) 0)
    rw [e9] at ea
    rw [ea] at M
    exact Int.le_trans Int.le_natAbs M
  have fit : z4 (r h 13) 2 * cb_u r z4 A4 (r h 12) < 4294967296 ^ 32 := by
    rw [zg4]
    refine nu_fit2 cmr (cb_u_nn _ _ _ _) ?_
    have eu : cb_u r z4 A4 (r h 12) = rx_1 σ X0 X1 0 * rx_1 σ X0 X1 1 := by
      rw [← v12]
      unfold cb_v
      rw [sg0, if_neg (by decide)]
    rw [eu]
    exact Int.mul_le_mul (bnd 0 (by omega)) (bnd 1 (by omega)) (Int.le_of_lt P1) (by decide)
  refine wz_c4_put (S := fun q => q = 13) J4 h1 h4 R1 R2 n1 o1 (by rw [n4, a2, R2]; decide) (by rw [o4, a2, R2]; decide) (by omega) (by omega) (by rw [zg4]; exact cmr) sg0 pp0 fit (fun z5 A5 J5 F5 kn nl => ?_)
  have F4 : cF ρ (fun q => q = 0) z3 A3 z4 A4 := cF_Y h1 o1 (by rw [o4]; exact a2) Y4
  have F : cF ρ (fun q => q = 0 ∨ q = 11 ∨ q = 13) z2 A2 z5 A5 := cF_trans (cF_trans (cF_mono F3r (fun q hq => by omega)) (cF_mono F4 (fun q hq => Or.inl hq))) (cF_mono F5 (fun q hq => by omega))
  have zh5 : z5 h = z2 h := by rw [(F5 h (by rw [a2]; omega)).1, Y4.1 h (cw_O_ne a1 o1 (by decide)), zh3]
  refine hQ ⟨hg, G1, G2⟩ z5 A5 (ci_keep I2 F J5 (by show ¬ (_ ∨ _ ∨ _); omega) (fun _ => by rw [zh5]; exact ⟨rfl, I2.2.2.2.2.2.2.2.2.2.2.1, I2.2.2.2.2.2.2.2.2.2.2.2⟩) (fun q => by omega) (fun i hi q => by omega) (fun i hi q => by omega) (fun i hi q => by omega) (fun i hi q => ?_)) (by rw [(F _ (by rw [c2]; omega)).1, zw2, zw1]) (ci_E_trans (ci_E_trans dd1 dd2) (ci_E_of I2 F (fun q hq => by omega) (fun y _ => by rw [zh5]) (ci_k_of I2 F (fun q hq => by omega)))) kn ?_ ?_ ?_
  rotate_left
  · exact nc_O_trans (nc_O_trans (nc_O_F I F1 (fun i hi hne => by show ¬ (_ ∨ _); omega)) (nc_O_F I1 F2 (fun i hi hne => by show ¬ (_ ∨ _); omega))) (nc_O_F I2 F (fun i hi hne => by show ¬ (_ ∨ _ ∨ _); omega))
  · obtain ⟨-, -, -, ⟨pa1, pa2, pa3, pa4⟩, -⟩ := id I.2.1
    have np : r h 1 ≠ r (r h 11) 0 := fun e => cd_dig J3.1 pa1 (by decide) _ n1 e.symm
    refine ⟨by rw [zh5, zh2, zh1], ?_⟩
    have q5 : A5 (r h 1) = A4 (r h 1) := (F5 _ (by rw [pa4, a2]; show ¬ _ = _; omega)).2
    have q4 : A4 (r h 1) = A3 (r h 1) := Y4.2 _ (fun e => cd_dig J3.1 pa1 (by decide) _ o1 e.symm)
    have q2' : A2 (r h 1) = A1 (r h 1) := (F2 _ (by rw [pa4, a2]; show ¬ (_ ∨ _); omega)).2
    have q1' : A1 (r h 1) = A (r h 1) := (F1 _ (by rw [pa4, a2]; show ¬ (_ ∨ _); omega)).2
    rw [q5, q4, pr3, q2', q1']
  · rw [v11, v12, zg4] at nl
    exact nl
  have : i = 1 := by omega
  subst this
  exact ⟨Or.inr kn, fun _ => hg2⟩
end CI
