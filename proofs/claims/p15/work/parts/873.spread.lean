/-- the moves that a deed and those before it take, set by set -/
noncomputable def cw_tau (dp : Nat → Int) : Nat → Int → Nat → Int
  | 0, _ => fun _ => -1
  | f + 1, d => if d = -1 then (fun _ => -1) else lp_U (cw_tau dp f (dp (d / 512).toNat)) (d / 512).toNat (d % 512)
theorem cw_tau_no (dp : Nat → Int) (f : Nat) : cw_tau dp f (-1) = fun _ => -1 := by
  cases f with
  | zero => rfl
  | succ f => exact if_pos rfl
theorem cw_tau_go {dp : Nat → Int} {f : Nat} {d : Int} (h : ¬ d = -1) : cw_tau dp (f + 1) d = lp_U (cw_tau dp f (dp (d / 512).toNat)) (d / 512).toNat (d % 512) := if_neg h
theorem cw_tau_hi {n : Nat} {dp : Nat → Int} (hd : rq_d n dp) : ∀ (f : Nat) (d : Int), (d = -1 ∨ (0 ≤ d ∧ d / 512 < (n : Int))) → ∀ i : Nat, (d = -1 ∨ d / 512 < (i : Int)) → cw_tau dp f d i = -1 := by
  intro f
  induction f with
  | zero => intro d _ i _; rfl
  | succ f ih =>
    intro d h i hi
    by_cases c : d = -1
    · rw [c, cw_tau_no]
    · have q := hd (d / 512).toNat (by omega)
      rw [cw_tau_go c, lp_U_other (by omega)]
      refine ih _ ?_ i ?_
      · rcases q with q | ⟨q1, q2⟩
        · exact Or.inl q
        · exact Or.inr ⟨q1, by omega⟩
      · rcases q with q | ⟨q1, q2⟩
        · exact Or.inl q
        · exact Or.inr (by omega)
/-- the share of one set: its bottom where it isn't met, else what its move has of it -/
noncomputable def wy_f (X0 X1 mv t : Nat → Int) (i : Nat) : Int := if t i = -1 then wb (fun q => X1 (4 * i + q)) (mv i).toNat else sp_q (wb (fun q => X1 (4 * i + q)) (mv i).toNat) (X1 (4 * i + (t i).toNat)) * X0 (4 * i + (t i).toNat)
noncomputable def wy_p (f : Nat → Int) : Nat → Int
  | 0 => 1
  | n + 1 => f n * wy_p f n
section CY
variable {L : List Nat} {K : Nat → cw_K} {r : Nat → Nat → Nat} {z A : Nat → Nat → Int} {w : Nat → Nat × Nat} {ρ : Nat → Nat} {S : Nat → Prop} {y s : Nat} {X0 X1 : Nat → Int}
theorem cs_F_d (hF : cs_F L K r z A s) : rq_d (z s 0).toNat (A (r s 4)) := fun i hi => by
  rcases (hF.2.2.2 i (by omega)).2.2.2 with q | ⟨q1, q2, -⟩
  · exact Or.inl q
  · exact Or.inr ⟨q1, q2⟩
theorem wz_c9_bottomOf {i : Int} (h7 : cg_7 L K r w ρ) (h9 : cg_9 L K r w ρ) (hF : cs_F L K r z A s) (hW : cy_W L K r A y) (hi : 0 ≤ i ∧ i < z s 0) {Q : Int → Prop} (hQ : ∀ x : Int, 0 ≤ x → x ≤ 10000000000000000 → x = wb (fun q => A (r y 1) (4 * i.toNat + q)) (A (r s 2) i.toNat).toNat → Q x) : wp_c9_bottomOf L K z r A y s i Q := by
  obtain ⟨hs, f2, f3, f4⟩ := hF
  obtain ⟨-, ⟨m1, m2, m3, m4⟩, -, -, -, -⟩ := h7 s hs
  obtain ⟨hO, hc⟩ := hW
  obtain ⟨-, ⟨b1, b2, b3, b4⟩, -⟩ := h9 y hO
  have fi := (f4 i.toNat (by omega)).1
  intro P hP
  have key : ∀ (k n : Nat) (x j : Int), n + (k : Int) = A (r s 2) i.toNat → j = (n : Int) → 0 ≤ x → x ≤ 10000 ^ n → x = wb (fun q => A (r y 1) (4 * i.toNat + q)) n → P x j := by
    intro k
    induction k with
    | zero =>
      intro n x j hk ej x0 x1 xb
      have : (10000 : Int) ^ n ≤ 10000000000000000 := by
        have : n = 1 ∨ n = 2 ∨ n = 3 ∨ n = 4 := by omega
        rcases this with rfl | rfl | rfl | rfl <;> decide
      exact hP x j ⟨hs, m1, by omega, by omega, by omega, fun _ => hQ x x0 (by omega) (by rw [xb, show (A (r s 2) i.toNat).toNat = n by omega]), fun c => by omega⟩
    | succ k ih =>
      intro n x j hk ej x0 x1 xb
      have hb := hc (i * 4 + j).toNat (by omega)
      have p4 : (10000 : Int) ^ (n + 1) ≤ 10000000000000000 := by
        have : n = 0 ∨ n = 1 ∨ n = 2 ∨ n = 3 := by omega
        rcases this with rfl | rfl | rfl | rfl <;> decide
      have pn : (10000 : Int) ^ (n + 1) = 10000 ^ n * 10000 := Int.pow_succ ..
      refine hP x j ⟨hs, m1, by omega, by omega, by omega, fun c => by omega, fun _ => ⟨hO, b1, by omega, by omega, wv_c11_lcm (M := 10000 ^ (n + 1)) (by omega) (by omega) ?_ (by omega) (fun v ev v0 v1 j1 ej1 => ih (n + 1) v j1 (by omega) (by omega) v0 v1 (by
        show v = sp_l (wb (fun q => A (r y 1) (4 * i.toNat + q)) n) (A (r y 1) (4 * i.toNat + n))
        rw [ev, ← xb, show (i * 4 + j).toNat = 4 * i.toNat + n by omega]))⟩⟩
      rw [pn]
      exact Int.mul_le_mul x1 (by omega) (by omega) (by omega)
  exact key (A (r s 2) i.toNat).toNat 0 1 0 (by omega) rfl (by decide) (by decide) rfl
theorem wz_c9_topOf {i m b : Int} (h9 : cg_9 L K r w ρ) (hW : cy_W L K r A y) (hi : 0 ≤ i ∧ i < 10) (hm : 0 ≤ m ∧ m < 4) (hb : 0 ≤ b ∧ b ≤ 10000000000000000) {Q : Int → Prop} (hQ : ∀ x : Int, 0 ≤ x → x ≤ b → x = sp_q b (A (r y 1) (4 * i.toNat + m.toNat)) * A (r y 0) (4 * i.toNat + m.toNat) → Q x) : wp_c9_topOf L K z r A y i m b Q := by
  obtain ⟨hO, hc⟩ := hW
  obtain ⟨⟨a1, a2, a3, a4⟩, ⟨b1, b2, b3, b4⟩, -⟩ := h9 y hO
  intro x xr xe
  have ex : x = i * 4 + m := by omega
  have hx := hc x.toNat (by omega)
  refine ⟨hO, b1, by omega, by omega, wq_c11_quotient (by omega) (by omega) (fun q q1 _ q3 q4 => ⟨a1, by omega, by omega, fun v vr ve => ?_⟩)⟩
  have q1 := q1 hb.1
  have t0 : 0 ≤ q * A (r y 0) x.toNat := Int.mul_nonneg q1.1 hx.1
  have t1 : q * A (r y 0) x.toNat ≤ b := by
    by_cases h0 : A (r y 1) x.toNat = 0
    · rw [q4 h0]; omega
    · have e := q3 (by omega)
      rw [Int.tdiv_eq_ediv_of_nonneg hb.1] at e
      have h1 : q * A (r y 0) x.toNat ≤ q * A (r y 1) x.toNat := Int.mul_le_mul_of_nonneg_left hx.2.1 q1.1
      have h2 : q * A (r y 1) x.toNat ≤ b := by rw [e]; exact Int.ediv_mul_le _ (by omega)
      omega
  have eq : q = sp_q b (A (r y 1) x.toNat) := sp_q_of q3 q4 (by omega)
  have en : x.toNat = 4 * i.toNat + m.toNat := by omega
  have fin : v = sp_q b (A (r y 1) (4 * i.toNat + m.toNat)) * A (r y 0) (4 * i.toNat + m.toNat) := by
    rw [← en, ← eq]
    generalize q * A (r y 0) x.toNat = t at *
    omega
  generalize q * A (r y 0) x.toNat = t at *
  exact hQ v (by omega) (by omega) fin
theorem wz_c9_markTaken {d : Int} (h : cJ L K r z A) (hdg : ∀ a, cw_O L K 0 a → w (r a 0) = (a, 0)) (h7 : cg_7 L K r w ρ) (h9 : cg_9 L K r w ρ) (hO : cw_O L K 9 y) (hF : cs_F L K r z A s) (hy : S (ρ y)) (hd : cs_d z s d) {Q : (Nat → Nat → Int) → Prop} (hQ : ∀ A' : Nat → Nat → Int, cJ L K r z A' → cF ρ S z A z A' → (∀ a, a ≠ r y 2 → A' a = A a) → cy_t r A' y → (∀ i, i < 10 → A' (r y 2) i = cw_tau (A (r s 4)) 10 d i) → Q A') : wp_c9_markTaken L K z r A y s d Q := by
  have hrd := cs_F_d hF
  obtain ⟨hs, f2, f3, f4⟩ := hF
  obtain ⟨-, -, -, ⟨e1, e2, e3, e4⟩, -, -⟩ := h7 s hs
  obtain ⟨-, -, ⟨c1, c2, c3, c4⟩⟩ := h9 y hO
  have dd := cg_dig hdg c3 hO (by decide)
  have nsy : s ≠ y := cw_O_ne hs hO (by decide)
  have ne : r s 4 ≠ r y 2 := cg_ne e3 c3 (by simp)
  have two : ∀ A1 : Nat → Nat → Int, cJ L K r z A1 → cF ρ S z A z A1 → (∀ a, a ≠ r y 2 → A1 a = A a) → cy_t r A1 y → (∀ i, i < 10 → A1 (r y 2) i = -1) → wp_c9_markTaken_26 L K z r A1 y s d 0 Q := by
    intro A1 j1 F1 o1 t1 all1 P hP
    have key : ∀ (k n : Nat) (A2 : Nat → Nat → Int) (x i : Int), n + k = 10 → i = (n : Int) → cJ L K r z A2 → cF ρ S z A z A2 → (∀ a, a ≠ r y 2 → A2 a = A a) → cy_t r A2 y → cs_d z s x → (∀ j, j < 10 → (if cw_tau (A (r s 4)) k x j = -1 then A2 (r y 2) j else cw_tau (A (r s 4)) k x j) = cw_tau (A (r s 4)) 10 d j) → P A2 x i := by
      intro k
      induction k with
      | zero =>
        intro n A2 x i hk ei j2 F2 o2 t2 hx inv
        exact hP A2 x i ⟨by omega, fun _ => hQ A2 j2 F2 o2 t2 (fun j hj => by have q := inv j hj; rw [if_pos (show cw_tau (A (r s 4)) 0 x j = -1 from rfl)] at q; exact q), fun c => by omega⟩
      | succ k ih =>
        intro n A2 x i hk ei j2 F2 o2 t2 hx inv
        have xr : hz_rI x := by unfold cs_d at hx; omega
        refine hP A2 x i ⟨by omega, fun c => by omega, fun _ => ⟨xr, fun c => hQ A2 j2 F2 o2 t2 (fun j hj => by have q := inv j hj; rw [c, cw_tau_no, if_pos rfl] at q; exact q), fun c => ⟨hO, ?_⟩⟩⟩
        have hx : 0 ≤ x ∧ x / 512 < z s 0 ∧ x % 512 < 4 := by rcases hx with q | q; exact absurd q c; exact q
        refine wq_c7_setOf xr (fun _ => wq_c7_moveOf xr (fun _ => ⟨c1, by omega, fun A3 e3' => ⟨hs, wq_c7_setOf xr (fun _ => ⟨e1, by omega, fun x1 ex1 i1 ei1 => ?_⟩) hx.1⟩⟩) hx.1) hx.1
        have j3 : cJ L K r z A3 := by rw [e3']; exact cJ_st j2 c1 dd ⟨fun _ => by omega, by omega, by omega, by omega⟩
        have o3 : ∀ a, a ≠ r y 2 → A3 a = A a := fun a ha => by rw [e3', hz_s_a ha]; exact o2 a ha
        refine ih (n + 1) A3 x1 i1 (by omega) (by omega) j3 (cF_trans F2 (by rw [e3']; exact cF_st (by rw [c4]; exact hy))) o3 (fun i hi => ?_) ?_ (fun j hj => ?_)
        · rw [e3']
          by_cases hin : i = (x / 512).toNat
          · rw [hin, hz_s_same]; omega
          · rw [hz_s_i hin]; exact t2 i hi
        · rw [ex1, o3 _ ne]
          have := (f4 (x / 512).toNat (by omega)).2.2.2
          unfold cs_d
          omega
        · have q := inv j hj
          rw [cw_tau_go c] at q
          have ex1' : x1 = A (r s 4) (x / 512).toNat := by rw [ex1, o3 _ ne]
          by_cases hin : j = (x / 512).toNat
          · have m0 := Int.emod_nonneg x (show (512 : Int) ≠ 0 by decide)
            have hi9 : cw_tau (A (r s 4)) k x1 j = -1 := by
              have fq := hrd (x / 512).toNat (by omega)
              rw [← ex1'] at fq
              refine cw_tau_hi hrd k x1 ?_ j ?_
              · rcases fq with fq | ⟨fq1, fq2⟩
                · exact Or.inl fq
                · exact Or.inr ⟨fq1, by omega⟩
              · rcases fq with fq | ⟨fq1, fq2⟩
                · exact Or.inl fq
                · exact Or.inr (by omega)
            rw [hi9, if_pos rfl, hin, e3', hz_s_same]
            rw [hin, lp_U_same, if_neg (show ¬ x % 512 = -1 by omega)] at q
            exact q
          · rw [lp_U_other hin, ← ex1'] at q
            rw [e3', hz_s_i hin]
            exact q
    exact key 10 0 A1 d 0 (by omega) rfl j1 F1 o1 t1 hd (fun j hj => by
      rw [all1 j hj]
      by_cases c : cw_tau (A (r s 4)) 10 d j = -1
      · rw [if_pos c, c]
      · rw [if_neg c])
  intro P hP
  have key : ∀ (k n : Nat) (A1 : Nat → Nat → Int) (i : Int), n + k = 10 → i = (n : Int) → cJ L K r z A1 → cF ρ S z A z A1 → (∀ a, a ≠ r y 2 → A1 a = A a) → (∀ i, i < n → A1 (r y 2) i = -1) → P A1 i := by
    intro k
    induction k with
    | zero =>
      intro n A1 i hk ei j1 F1 o1 t1
      exact hP A1 i ⟨by omega, fun _ => two A1 j1 F1 o1 (fun i hi => by rw [t1 i (by omega)]; omega) (fun i hi => t1 i (by omega)), fun c => by omega⟩
    | succ k ih =>
      intro n A1 i hk ei j1 F1 o1 t1
      subst ei
      refine hP A1 n ⟨by omega, fun c => by omega, fun _ => ⟨hO, c1, by omega, fun A2 e2' x ex => ?_⟩⟩
      refine ih (n + 1) A2 x (by omega) (by omega) (by rw [e2']; exact cJ_st j1 c1 dd ⟨fun _ => by omega, by omega, by omega, by omega⟩) (cF_trans F1 (by rw [e2']; exact cF_st (by rw [c4]; exact hy))) (fun a ha => by rw [e2', hz_s_a ha]; exact o1 a ha) (fun i hi => ?_)
      rw [e2']
      by_cases hin : i = n
      · have := hz_s_same (A := A1) (r y 2) (n : Int) (-1)
        rw [show ((n : Int)).toNat = n by omega] at this
        rw [hin]; exact this
      · rw [hz_s_i (by omega)]; exact t1 i (by omega)
  exact key 10 0 A 0 (by omega) rfl h (cF_refl _ _ _ _) (fun _ _ => rfl) (fun i hi => by omega)
theorem wz_c9_spreadLine {d : Int} {b : Nat} (h : cJ L K r z A) (hdg : ∀ a, cw_O L K 0 a → w (r a 0) = (a, 0)) (h1 : cg_1 L K r w ρ) (h7 : cg_7 L K r w ρ) (h9 : cg_9 L K r w ρ) (hF : cs_F L K r z A s) (hW : cy_V X0 X1 L K r A y) (hy : S (ρ y)) (hs' : ¬ S (ρ s)) (hb : cw_O L K 0 b) (hbS : S (ρ b)) (hby : ρ b ≠ ρ y) (hd : cs_d z s d) (hbn : cw_n K (r b 0) = 32) (hB : ∀ i, i < (z s 0).toNat → wb (fun q => X1 (4 * i + q)) (A (r s 2) i).toNat ≤ 99980001) {Q : (Nat → Nat → Int) → (Nat → Nat → Int) → Prop} (hQ : ∀ z' A' : Nat → Nat → Int, cJ L K r z' A' → cF ρ S z A z' A' → cy_V X0 X1 L K r A' y → (∀ a, a ≠ b → z' a = z a) → z' b 1 ≤ 12 → cb_v r z' A' b = wy_p (wy_f X0 X1 (A (r s 2)) (cw_tau (A (r s 4)) 10 d)) (z s 0).toNat → (∀ c, cw_O L K 0 c → c ≠ b → cb_v r z' A' c = cb_v r z A c) → Q z' A') : wp_c9_spreadLine L K z r A y s d b Q := by
  have hO := hW.1.1
  have hs := hF.1
  obtain ⟨⟨a1, a2, a3, a4⟩, ⟨b1, b2, b3, b4⟩, ⟨c1, c2, c3, c4⟩⟩ := h9 y hO
  have yb : ∀ k, ρ (r y k) = ρ y → r y k ≠ r b 0 := fun k hk e => hby (by rw [← h1.1 b hb, ← e, hk])
  have dd := cg_dig hdg c3 hO (by decide)
  obtain ⟨T9, hT9⟩ : ∃ T9 : Nat → Int, cw_tau (A (r s 4)) 10 d = T9 := ⟨_, rfl⟩
  rw [hT9] at hQ
  obtain ⟨FF, hFF⟩ : ∃ FF : Nat → Int, wy_f X0 X1 (A (r s 2)) T9 = FF := ⟨_, rfl⟩
  rw [hFF] at hQ
  refine ⟨hO, wz_c9_markTaken h hdg h7 h9 hO hF hy hd (fun A1 j1 F1 o1 t1 tau1 => ⟨hb, ?_⟩)⟩
  rw [hT9] at tau1
  have ot1 : ∀ c, cw_O L K 0 c → c ≠ b → cb_v r z A1 c = cb_v r z A c := fun c hc _ => by
    unfold cb_v cb_u
    rw [o1 _ (dd c hc)]
  have W1 : cy_V X0 X1 L K r A1 y := ⟨⟨hO, fun i hi => by rw [o1 _ (cg_ne a3 c3 (by simp)), o1 _ (cg_ne b3 c3 (by simp))]; exact hW.1.2 i hi⟩, by rw [o1 _ (cg_ne a3 c3 (by simp))]; exact hW.2.1, by rw [o1 _ (cg_ne b3 c3 (by simp))]; exact hW.2.2⟩
  refine wq_c0_put j1.1 hb (by omega) (fun z2 A2 k2 hY2 hv2 hl2 => ?_)
  have ot2 : ∀ c, cw_O L K 0 c → c ≠ b → cb_v r z2 A2 c = cb_v r z A c := fun c hc hne => by rw [(cb_k_other j1.1.1 hb hc hne hY2).2.2]; exact ot1 c hc hne
  have tau2 : ∀ i, i < 10 → A2 (r y 2) i = T9 i := fun i hi => by rw [hY2.2 _ (yb 2 c4)]; exact tau1 i hi
  have em : ∀ {z9 A9 : Nat → Nat → Int}, cF ρ S z A z9 A9 → A9 (r s 2) = A (r s 2) := fun hF9 => (hF9 _ (by rw [(h7 s hs).2.1.2.2.2]; exact hs')).2
  have j2 := cJ_Y j1 hb k2 hY2
  have F2 : cF ρ S z A z2 A2 := cF_trans F1 (cF_Y h1 hb hbS hY2)
  have W2 : cy_V X0 X1 L K r A2 y := ⟨⟨hO, fun i hi => by rw [hY2.2 _ (yb 0 a4), hY2.2 _ (yb 1 b4)]; exact W1.1.2 i hi⟩, by rw [hY2.2 _ (yb 0 a4)]; exact W1.2.1, by rw [hY2.2 _ (yb 1 b4)]; exact W1.2.2⟩
  have t2 : cy_t r A2 y := fun i hi => by rw [hY2.2 _ (yb 2 c4)]; exact t1 i hi
  intro P hP
  have key : ∀ (k n : Nat) (z3 A3 : Nat → Nat → Int) (x : Int), n + (k : Int) = z s 0 → x = (n : Int) → cJ L K r z3 A3 → cF ρ S z A z3 A3 → cy_V X0 X1 L K r A3 y → cy_t r A3 y → (∀ a, a ≠ b → z3 a = z a) → z3 b 1 ≤ 2 + (n : Int) → (∀ i, i < 10 → A3 (r y 2) i = T9 i) → (∀ c, cw_O L K 0 c → c ≠ b → cb_v r z3 A3 c = cb_v r z A c) → cb_v r z3 A3 b = wy_p FF n → cb_u r z3 A3 b ≤ 100000000 ^ n → P z3 A3 x := by
    intro k
    induction k with
    | zero =>
      intro n z3 A3 x hk ex j3 F3 W3 t3 o3 l3 tau3 ot3 val3 u3
      have e0 : z3 s 0 = z s 0 := by rw [(F3 s hs').1]
      have := hF.2.1
      exact hP z3 A3 x ⟨hs, by omega, by omega, fun _ => hQ z3 A3 j3 F3 W3 o3 (by omega) (by rw [val3, show (z s 0).toNat = n by omega]) ot3, fun c => by omega⟩
    | succ k ih =>
      intro n z3 A3 x hk ex j3 F3 W3 t3 o3 l3 tau3 ot3 val3 u3
      have F3' := cs_F_keep h7 hF F3 hs'
      have e0 : z3 s 0 = z s 0 := by rw [(F3 s hs').1]
      have hle := hF.2.1
      have tn := t3 x.toNat (by omega)
      have e9 : x.toNat = n := by omega
      have hBn := hB n (by omega)
      have sc : ∀ f : Int, f = FF n → 0 ≤ f → f ≤ 99980001 → wp_c9_spreadLine_64 L K z3 r A3 y s b x f b P Q := by
        intro f ef f0 f1
        refine ⟨hb, wq_c0_scale j3.1 hb (fun z4 A4 k4 hY4 hl4 hsc x4 ex4 => ?_)⟩
        have un := cb_u_nn r z3 A3 b
        have p8 : (100000000 : Int) ^ (n + 1) = 100000000 ^ n * 100000000 := Int.pow_succ ..
        have fu : f * cb_u r z3 A3 b ≤ 100000000 ^ (n + 1) := by
          have q1 : f * cb_u r z3 A3 b ≤ 100000000 * cb_u r z3 A3 b := Int.mul_le_mul_of_nonneg_right (by omega) un
          omega
        have p80 : (100000000 : Int) ^ (n + 1) ≤ 100000000 ^ 10 := by
          have e : (100000000 : Int) ^ 10 = 100000000 ^ (n + 1) * 100000000 ^ (9 - n) := by
            rw [← Int.pow_add, show n + 1 + (9 - n) = 10 by omega]
          have q1 : (1 : Int) ≤ 100000000 ^ (9 - n) := Int.pow_pos (by decide)
          have q2 : (100000000 : Int) ^ (n + 1) * 1 ≤ 100000000 ^ (n + 1) * 100000000 ^ (9 - n) := Int.mul_le_mul_of_nonneg_left q1 (Int.le_of_lt (Int.pow_pos (by decide)))
          omega
        have p32 : (100000000 : Int) ^ 10 < 4294967296 ^ 32 := by decide +kernel
        obtain ⟨u1, u2⟩ := hsc f0 (by omega) (by rw [hbn]; exact Int.lt_of_le_of_lt (Int.le_trans fu p80) p32)
        have sgn : cb_v r z4 A4 b = f * cb_v r z3 A3 b := by
          by_cases hz : z4 b 1 = 0
          · have c4 := (cb_u0 (k4.2 _ hb) k4.1 hb).mp hz
            rw [c4] at u1
            have q9 : f * -(cb_u r z3 A3 b) = 0 := by rw [Int.mul_neg]; omega
            unfold cb_v
            rw [c4]
            split <;> split <;> omega
          · have p := (k4.2 _ hb).1
            unfold cb_v
            rw [u2 (by omega), u1]
            by_cases c9 : z3 b 2 = 1
            · rw [if_pos c9, if_pos c9, Int.mul_neg]
            · rw [if_neg c9, if_neg c9]
        refine ih (n + 1) z4 A4 x4 (by omega) (by omega) (cJ_Y j3 hb k4 hY4) (cF_trans F3 (cF_Y h1 hb hbS hY4)) ⟨⟨hO, fun i hi => by rw [hY4.2 _ (yb 0 a4), hY4.2 _ (yb 1 b4)]; exact W3.1.2 i hi⟩, by rw [hY4.2 _ (yb 0 a4)]; exact W3.2.1, by rw [hY4.2 _ (yb 1 b4)]; exact W3.2.2⟩ (fun i hi => by rw [hY4.2 _ (yb 2 c4)]; exact t3 i hi) (fun a ha => by rw [hY4.1 a ha]; exact o3 a ha) (by omega) (fun i hi => by rw [hY4.2 _ (yb 2 c4)]; exact tau3 i hi) (fun c hc hne => by rw [(cb_k_other j3.1.1 hb hc hne hY4).2.2]; exact ot3 c hc hne) (by rw [sgn, val3, ef]; rfl) (by rw [u1]; exact fu)
      refine hP z3 A3 x ⟨hs, by omega, by omega, fun c => by omega, fun _ => ⟨hO, wz_c9_bottomOf h7 h9 F3' W3.1 (by omega) (fun v v0 v1 vb => ⟨c1, by omega, by omega, fun c => ⟨by omega, wz_c9_topOf h9 W3.1 (by omega) (by omega) ⟨v0, v1⟩ (fun t u0 u1 ut => sc t ?_ u0 ?_)⟩, fun c => sc v ?_ v0 ?_⟩)⟩⟩
      · rw [W3.2.2, em F3, e9] at vb
        rw [W3.2.1, W3.2.2, e9, tau3 n (by omega), vb] at ut
        rw [e9, tau3 n (by omega)] at c
        rw [ut, ← hFF]
        unfold wy_f
        rw [if_neg c]
      · rw [W3.2.2, em F3, e9] at vb
        omega
      · rw [W3.2.2, em F3, e9] at vb
        rw [e9, tau3 n (by omega)] at c
        rw [vb, ← hFF]
        unfold wy_f
        rw [if_pos c]
      · rw [W3.2.2, em F3, e9] at vb
        omega
  exact key (z s 0).toNat 0 z2 A2 0 (by have := hF.2.1; omega) rfl j2 F2 W2 t2 (fun a ha => hY2.1 a ha) (by omega) tau2 ot2 hv2 (by
    have e : cb_v r z2 A2 b = 1 := hv2
    have un := cb_u_nn r z2 A2 b
    show cb_u r z2 A2 b ≤ 1
    unfold cb_v at e
    split at e <;> omega)
theorem wz_c9_spread {m : Nat} (h : cJ L K r z A) (hdg : ∀ a, cw_O L K 0 a → w (r a 0) = (a, 0)) (h1 : cg_1 L K r w ρ) (h3 : cg_3 L K r w ρ) (h7 : cg_7 L K r w ρ) (h9 : cg_9 L K r w ρ) (hF : cs_F L K r z A s) (hW : cy_V X0 X1 L K r A y) (hy : S (ρ y)) (hs' : ¬ S (ρ s)) (hm : cw_O L K 3 m) (hmS : S (ρ m)) (hmy : ρ m ≠ ρ y) (hT : cm_T K r z m) (hB : ∀ i, i < (z s 0).toNat → wb (fun q => X1 (4 * i + q)) (A (r s 2) i).toNat ≤ 99980001) (hL : ∀ a b, a < b → b < (z s 0).toNat → A (r s 6) a + A (r s 2) a ≤ A (r s 6) b) {Q : (Nat → Nat → Int) → (Nat → Nat → Int) → Prop} (hQ : ∀ z' A' : Nat → Nat → Int, cJ L K r z' A' → cF ρ S z A z' A' → cy_V X0 X1 L K r A' y → cm_T K r z' m → (∀ d : Int, (d = -1 ∨ (0 ≤ d ∧ d / 512 < z s 0 ∧ d % 512 < A (r s 2) (d / 512).toNat)) → cb_v r z' A' (cw_g K (r m 0) (cs_l (A (r s 6)) d).toNat) = wy_p (wy_f X0 X1 (A (r s 2)) (cw_tau (A (r s 4)) 10 d)) (z s 0).toNat) → Q z' A') : wp_c9_spread L K z r A y s m Q := by
  have hO := hW.1.1
  have hs := hF.1
  obtain ⟨⟨g1, g2, g3, g4⟩, -⟩ := h3 m hm
  obtain ⟨-, ⟨m1, m2, m3, m4⟩, -, ⟨d1', d2', d3', d4'⟩, ⟨l1, l2, l3, l4⟩, -⟩ := h7 s hs
  obtain ⟨VV, hVV⟩ : ∃ VV : Int → Int, VV = fun d => wy_p (wy_f X0 X1 (A (r s 2)) (cw_tau (A (r s 4)) 10 d)) (z s 0).toNat := ⟨_, rfl⟩
  -- one line
  have one : ∀ (z1 A1 : Nat → Nat → Int) (d : Int) (i : Nat) (Q1 : (Nat → Nat → Int) → (Nat → Nat → Int) → Prop), i < 20 → cs_d z s d → cJ L K r z1 A1 → cF ρ S z A z1 A1 → cy_V X0 X1 L K r A1 y → cm_T K r z1 m → (∀ z2 A2 : Nat → Nat → Int, cJ L K r z2 A2 → cF ρ S z A z2 A2 → cy_V X0 X1 L K r A2 y → cm_T K r z2 m → cb_v r z2 A2 (cw_g K (r m 0) i) = wy_p (wy_f X0 X1 (A (r s 2)) (cw_tau (A (r s 4)) 10 d)) (z s 0).toNat → (∀ q, q < 20 → q ≠ i → cb_v r z2 A2 (cw_g K (r m 0) q) = cb_v r z1 A1 (cw_g K (r m 0) q)) → Q1 z2 A2) → wp_c9_spreadLine L K z1 r A1 y s d (cw_g K (r m 0) i) Q1 := by
    intro z1 A1 d i Q1 hi hd j1 F1 W1 T1 k1
    obtain ⟨p1, p2, p3, p4⟩ := g4 i hi
    have F1' := cs_F_keep h7 hF F1 hs'
    have d1 : cs_d z1 s d := by unfold cs_d at hd ⊢; rw [(F1 s hs').1]; exact hd
    have e2 : A1 (r s 2) = A (r s 2) := (F1 _ (by rw [m4]; exact hs')).2
    have e4 : A1 (r s 4) = A (r s 4) := (F1 _ (by rw [d4']; exact hs')).2
    have e0 : z1 s 0 = z s 0 := by rw [(F1 s hs').1]
    refine wz_c9_spreadLine j1 hdg h1 h7 h9 F1' W1 hy hs' p1 (by rw [p4]; exact hmS) (by rw [p4]; exact hmy) d1 p2 (by rw [e0, e2]; exact hB) (fun z2 A2 j2 F2 W2 o2 l2 v2 ot2 => k1 z2 A2 j2 (cF_trans F1 F2) W2 (fun q hq => ?_) (by rw [v2, e0, e2, e4]) (fun q hq hne => ot2 _ (g4 q hq).1 (cg_ne (g4 q hq).2.2.1 p3 (by simp; exact hne))))
    by_cases hqi : q = i
    · rw [hqi]; exact l2
    · obtain ⟨q1, q2, q3, q4⟩ := g4 q hq
      rw [o2 _ (cg_ne q3 p3 (by simp; exact hqi))]
      exact T1 q hq
  refine ⟨hm, g1, by omega, hO, one z A (-1) 0 _ (by omega) (Or.inl rfl) h (cF_refl _ _ _ _) hW hT (fun z1 A1 j1 F1 W1 T1 v1 _ => ?_)⟩
  intro P hP
  have f2 := hF.2.1
  have f3 := hF.2.2.1
  have key : ∀ (k n : Nat) (z2 A2 : Nat → Nat → Int) (x : Int), n + (k : Int) = z s 0 → x = (n : Int) → cJ L K r z2 A2 → cF ρ S z A z2 A2 → cy_V X0 X1 L K r A2 y → cm_T K r z2 m → cb_v r z2 A2 (cw_g K (r m 0) 0) = VV (-1) → (∀ n' j' : Nat, n' < n → (j' : Int) < A (r s 2) n' → cb_v r z2 A2 (cw_g K (r m 0) (A (r s 6) n' + j').toNat) = VV ((n' : Int) * 512 + j')) → P z2 A2 x := by
    intro k
    induction k with
    | zero =>
      intro n z2 A2 x hk ex j2 F2 W2 T2 v0 vn
      have e0 : z2 s 0 = z s 0 := by rw [(F2 s hs').1]
      refine hP z2 A2 x ⟨hs, by omega, by omega, fun _ => hQ z2 A2 j2 F2 W2 T2 (fun d hd => ?_), fun c => by omega⟩
      unfold cs_l
      by_cases c : d = -1
      · rw [if_pos c, c]
        rw [hVV] at v0
        exact v0
      · rw [if_neg c]
        have hd := hd.resolve_left c
        have m0 := Int.emod_nonneg d (show (512 : Int) ≠ 0 by decide)
        have q := vn (d / 512).toNat (d % 512).toNat (by omega) (by omega)
        rw [show (((d % 512).toNat : Nat) : Int) = d % 512 by omega, show (((d / 512).toNat : Nat) : Int) * 512 + d % 512 = d by omega, hVV] at q
        exact q
    | succ k ih =>
      intro n z2 A2 x hk ex j2 F2 W2 T2 v0 vn
      have e0 : z2 s 0 = z s 0 := by rw [(F2 s hs').1]
      refine hP z2 A2 x ⟨hs, by omega, by omega, fun c => by omega, fun _ => ?_⟩
      intro P2 hP2
      have fn := hF.2.2.2 n (by omega)
      have e9 : x.toNat = n := by omega
      have inner : ∀ (k2 j : Nat) (z3 A3 : Nat → Nat → Int) (i : Int), j + (k2 : Int) = A (r s 2) n → i = (j : Int) → cJ L K r z3 A3 → cF ρ S z A z3 A3 → cy_V X0 X1 L K r A3 y → cm_T K r z3 m → cb_v r z3 A3 (cw_g K (r m 0) 0) = VV (-1) → (∀ n' j' : Nat, n' < n ∨ (n' = n ∧ j' < j) → (j' : Int) < A (r s 2) n' → cb_v r z3 A3 (cw_g K (r m 0) (A (r s 6) n' + j').toNat) = VV ((n' : Int) * 512 + j')) → P2 z3 A3 i := by
        intro k2
        induction k2 with
        | zero =>
          intro j z3 A3 i hj ei j3 F3 W3 T3 v03 vn3
          have em : A3 (r s 2) = A (r s 2) := (F3 _ (by rw [m4]; exact hs')).2
          refine hP2 z3 A3 i ⟨hs, m1, by omega, by omega, by rw [em, e9]; omega, fun _ x1 e1 => ih (n + 1) z3 A3 x1 (by omega) (by omega) j3 F3 W3 T3 v03 (fun n' j' hn' hj' => vn3 n' j' (by
            by_cases e : n' = n
            · refine Or.inr ⟨e, ?_⟩
              rw [e] at hj'
              omega
            · exact Or.inl (by omega)) hj'), fun c => ?_⟩
          rw [em, e9] at c; omega
        | succ k2 ih2 =>
          intro j z3 A3 i hj ei j3 F3 W3 T3 v03 vn3
          have em : A3 (r s 2) = A (r s 2) := (F3 _ (by rw [m4]; exact hs')).2
          have el : A3 (r s 6) = A (r s 6) := (F3 _ (by rw [l4]; exact hs')).2
          refine hP2 z3 A3 i ⟨hs, m1, by omega, by omega, by rw [em, e9]; omega, fun c => ?_, fun _ => wq_c7_deed (by omega) (by omega) ⟨hm, l1, by omega, g1, by rw [el, e9]; omega, hO, ?_⟩⟩
          · rw [em, e9] at c; omega
          · refine one z3 A3 _ _ _ (by rw [el, e9]; omega) (Or.inr (by omega)) j3 F3 W3 T3 (fun z4 A4 j4 F4 W4 T4 v4 ot4 i1 ei1 => ih2 (j + 1) z4 A4 i1 (by omega) (by omega) j4 F4 W4 T4 (by
              rw [ot4 0 (by omega) (by rw [el, e9]; omega)]
              exact v03) (fun n' j' hn' hj' => ?_))
            have ei9 : (A3 (r s 6) x.toNat + i).toNat = (A (r s 6) n + (j : Int)).toNat := by rw [el, e9, ei]
            by_cases e : n' = n ∧ j' = j
            · rw [e.1, e.2, ← ei9, v4, hVV, ex, ei]
            · have fn' := hF.2.2.2 n' (by omega)
              rw [ot4 _ (by omega) ?_]
              · exact vn3 n' j' (by omega) hj'
              · rw [ei9]
                by_cases e2 : n' = n
                · rw [e2]
                  have : ¬ j' = j := fun q => e ⟨e2, q⟩
                  omega
                · have q := hL n' n (by omega) (by omega)
                  omega
      exact inner (A (r s 2) n).toNat 0 z2 A2 0 (by omega) rfl j2 F2 W2 T2 v0 (fun n' j' hn' hj' => vn n' j' (by omega) hj')
  exact key (z s 0).toNat 0 z1 A1 0 (by omega) rfl j1 F1 W1 T1 (by rw [hVV]; exact v1) (fun n' j' hn' hj' => by omega)
end CY
