/-- a mix: nothing below 0, in each set as much as ahead of it, something at all -/
noncomputable def nm_M (K : Nat → cw_K) (r : Nat → Nat → Nat) (z A : Nat → Nat → Int) (m s : Nat) : Prop := (∀ i : Nat, (i : Int) < z s 5 → 0 ≤ cb_v r z A (cw_g K (r m 0) i)) ∧ (∀ n : Nat, (n : Int) < z s 0 → cS (fun j => cb_v r z A (cw_g K (r m 0) (A (r s 6) n + (j : Int)).toNat)) (A (r s 2) n).toNat = cb_v r z A (cw_g K (r m 0) (A (r s 7) n).toNat)) ∧ 0 < cb_v r z A (cw_g K (r m 0) 0)
section CP
variable {L : List Nat} {K : Nat → cw_K} {r : Nat → Nat → Nat} {z A : Nat → Nat → Int} {w : Nat → Nat × Nat} {ρ : Nat → Nat} {S : Nat → Prop} {P g : Nat}
set_option maxHeartbeats 4000000 in
theorem wy_c3_isMix {m s : Nat} {M : Int} (h : cJ L K r z A) (h1 : cg_1 L K r w ρ) (h3 : cg_3 L K r w ρ) (h7 : cg_7 L K r w ρ) (hm : cw_O L K 3 m) (hmS : S (ρ m)) (hF : cs_F L K r z A s) (hs' : ¬ S (ρ s)) (hM : cm_M K r z A (r m 0) M) (hM0 : 0 ≤ M) (hfit : 10 * M < 4294967296 ^ 32) {Q : Int → (Nat → Nat → Int) → (Nat → Nat → Int) → Prop} (hQ : ∀ (x : Int) (z' A' : Nat → Nat → Int), cJ L K r z' A' → cF ρ S z A z' A' → (∀ a, a ≠ r m 1 → z' a = z a) → (∀ a, a ≠ r (r m 1) 0 → A' a = A a) → ((x = 0 ∧ ¬ nm_M K r z A m s) ∨ (x = 1 ∧ nm_M K r z A m s)) → Q x z' A') : wp_c3_isMix L K z r A m s Q := by
  obtain ⟨⟨p1, p2, p3, p4⟩, ⟨t1, t2, t3, t4⟩⟩ := h3 m hm
  have gr : r m 0 ≠ m := Ne.symm (cw_OG_ne hm p1)
  have hs := hF.1
  have f2 := hF.2.1
  have f3 := hF.2.2.1
  obtain ⟨-, ⟨m1, m2, m3, m4⟩, -, -, ⟨n1, n2, n3, n4⟩, ⟨q1, q2, q3, q4⟩⟩ := h7 s hs
  have tS : S (ρ (r m 1)) := by rw [t4]; exact hmS
  have pt : ∀ i, i < 20 → cw_g K (r m 0) i ≠ r m 1 := fun i hi => cg_ne (p4 i hi).2.2.1 t3 (by simp; intro e; exact absurd e gr)
  have old : ∀ (z1 A1 : Nat → Nat → Int), cb_Y r (r m 1) z A z1 A1 → ∀ i, i < 20 → cb_v r z1 A1 (cw_g K (r m 0) i) = cb_v r z A (cw_g K (r m 0) i) := fun z1 A1 Y1 i hi => (cb_k_other h.1.1 t1 (p4 i hi).1 (pt i hi) Y1).2.2
  have two : (∀ i : Nat, (i : Int) < z s 5 → 0 ≤ cb_v r z A (cw_g K (r m 0) i)) → wp_c3_isMix_32 L K z r A m s 0 Q := by
    intro pos
    intro PP hPP
    have key : ∀ (k n : Nat) (z1 A1 : Nat → Nat → Int) (x : Int), n + (k : Int) = z s 0 → x = (n : Int) → cJ L K r z1 A1 → cF ρ S z A z1 A1 → cb_Y r (r m 1) z A z1 A1 → (∀ n' : Nat, n' < n → cS (fun j => cb_v r z A (cw_g K (r m 0) (A (r s 6) n' + (j : Int)).toNat)) (A (r s 2) n').toNat = cb_v r z A (cw_g K (r m 0) (A (r s 7) n').toNat)) → PP z1 A1 x := by
      intro k
      induction k with
      | zero =>
        intro n z1 A1 x hk ex j1 F1 Y1 S1
        have e0 : z1 s 0 = z s 0 := by rw [(F1 _ hs').1]
        refine hPP z1 A1 x ⟨hs, by omega, by omega, fun _ => ⟨hm, p1, by omega, (p4 0 (by omega)).1, wq_c0_sign j1.1 (p4 0 (by omega)).1 (fun v va vb vc v4 => by
          have e9 : cb_v r z1 A1 (cw_g K (r m 0) 0) = cb_v r z A (cw_g K (r m 0) 0) := old z1 A1 Y1 0 (by omega)
          have vb' : v = 0 ↔ cb_v r z A (cw_g K (r m 0) 0) = 0 := by rw [← e9]; exact va
          have vc' : v = 1 ↔ 0 < cb_v r z A (cw_g K (r m 0) 0) := by rw [← e9]; exact vb
          exact ⟨by omega, fun c => ⟨by omega, hQ 0 z1 A1 j1 F1 Y1.1 Y1.2 (Or.inl ⟨rfl, fun q => by have := vc'.mpr q.2.2; omega⟩)⟩, fun c => ⟨by omega, hQ 1 z1 A1 j1 F1 Y1.1 Y1.2 (Or.inr ⟨rfl, pos, fun n' hn' => S1 n' (by omega), vc'.mp (by omega)⟩)⟩⟩)⟩, fun c => by omega⟩
      | succ k ih =>
        intro n z1 A1 x hk ex j1 F1 Y1 S1
        have e0 : z1 s 0 = z s 0 := by rw [(F1 _ hs').1]
        have e9 : x.toNat = n := by omega
        have fn := hF.2.2.2 n (by omega)
        refine hPP z1 A1 x ⟨hs, by omega, by omega, fun c => by omega, fun _ => ⟨hm, t1, wq_c0_put j1.1 t1 (by omega) (fun z2 A2 k2 hY2 hv2 _ => ?_)⟩⟩
        have u2 : cb_u r z2 A2 (r m 1) = 0 := (cb_u0 (k2.2 _ t1) k2.1 t1).mp ((cb_v0 (k2.2 _ t1) k2.1 t1).mpr hv2)
        intro P2 hP2
        have inner : ∀ (k2 j : Nat) (z3 A3 : Nat → Nat → Int) (i : Int), j + (k2 : Int) = A (r s 2) n → i = (j : Int) → cJ L K r z3 A3 → cF ρ S z A z3 A3 → cb_Y r (r m 1) z A z3 A3 → cb_u r z3 A3 (r m 1) ≤ M * (j : Int) → cb_v r z3 A3 (r m 1) = cS (fun j => cb_v r z A (cw_g K (r m 0) (A (r s 6) n + (j : Int)).toNat)) j → P2 z3 A3 i := by
          intro k2
          induction k2 with
          | zero =>
            intro j z3 A3 i hj ei j3 F3 Y3 u3 v3
            have em : A3 (r s 2) = A (r s 2) := (F3 _ (by rw [m4]; exact hs')).2
            have eq : A3 (r s 7) = A (r s 7) := (F3 _ (by rw [q4]; exact hs')).2
            refine hP2 z3 A3 i ⟨hs, m1, by omega, by omega, by rw [em, e9]; omega, fun _ => ⟨hm, q1, by omega, p1, by rw [eq, e9]; omega, t1, wq_c0_order j3.1 t1 (p4 _ (by rw [eq, e9]; omega)).1 (fun v v1 v2 _ _ => by
              have e7 : A3 (r s 7) x.toNat = A (r s 7) n := by rw [eq, e9]
              rw [e7, old z3 A3 Y3 _ (by omega), v3] at v2
              have ej : (A (r s 2) n).toNat = j := by omega
              exact ⟨by omega, fun c x1 e1 => ih (n + 1) z3 A3 x1 (by omega) (by omega) j3 F3 Y3 (fun n' hn' => by
                by_cases en' : n' = n
                · rw [en', ej]
                  exact v2.mp c
                · exact S1 n' (by omega)), fun c => hQ 0 z3 A3 j3 F3 Y3.1 Y3.2 (Or.inl ⟨rfl, fun q => c (v2.mpr (by have q9 := q.2.1 n (by omega); rw [ej] at q9; exact q9))⟩)⟩)⟩, fun c => ?_⟩
            rw [em, e9] at c; omega
          | succ k2 ih2 =>
            intro j z3 A3 i hj ei j3 F3 Y3 u3 v3
            have em : A3 (r s 2) = A (r s 2) := (F3 _ (by rw [m4]; exact hs')).2
            have en : A3 (r s 6) = A (r s 6) := (F3 _ (by rw [n4]; exact hs')).2
            obtain ⟨a1, a2, a3, a4⟩ := p4 (A (r s 6) n + i).toNat (by omega)
            have ne := pt (A (r s 6) n + i).toNat (by omega)
            have ua : cb_u r z3 A3 (cw_g K (r m 0) (A (r s 6) n + i).toNat) ≤ M := by
              rw [(cb_k_other h.1.1 t1 a1 ne Y3).2.1]
              exact hM _ (by omega)
            have mj : M * ((j + 1 : Nat) : Int) = M * (j : Int) + M := by rw [Int.natCast_add, Int.mul_add]; simp
            have mb : M * (j : Int) ≤ M * 4 := Int.mul_le_mul_of_nonneg_left (by omega) hM0
            refine hP2 z3 A3 i ⟨hs, m1, by omega, by omega, by rw [em, e9]; omega, fun c => ?_, fun _ => ⟨hm, n1, by omega, p1, by rw [en, e9]; omega, t1, ?_⟩⟩
            · rw [em, e9] at c; omega
            · rw [en, e9]
              refine wq_c0_plus j3.1 t1 a1 ne (by rw [t2]; omega) (fun z4 A4 k4 hY4 hv4 x1 e1 => ?_)
              have un : cb_u r z4 A4 (r m 1) ≤ cb_u r z3 A3 (r m 1) + cb_u r z3 A3 (cw_g K (r m 0) (A (r s 6) n + i).toNat) := by
                have x1' := cb_u_nn r z4 A4 (r m 1)
                have x2' := cb_u_nn r z3 A3 (r m 1)
                have x3' := cb_u_nn r z3 A3 (cw_g K (r m 0) (A (r s 6) n + i).toNat)
                unfold cb_v at hv4
                split at hv4 <;> split at hv4 <;> split at hv4 <;> omega
              exact ih2 (j + 1) z4 A4 x1 (by omega) (by omega) (cJ_Y j3 t1 k4 hY4) (cF_trans F3 (cF_Y h1 t1 tS hY4)) (cb_Y_trans Y3 hY4) (by omega) (by
                rw [hv4, v3, old z3 A3 Y3 _ (by omega), ei]
                rfl)
        exact inner (A (r s 2) n).toNat 0 z2 A2 0 (by omega) rfl (cJ_Y j1 t1 k2 hY2) (cF_trans F1 (cF_Y h1 t1 tS hY2)) (cb_Y_trans Y1 hY2) (by rw [u2]; simp) hv2
    exact key (z s 0).toNat 0 z A 0 (by omega) rfl h (cF_refl _ _ _ _) (cb_Y_refl _ _ _ _) (fun n' hn' => by omega)
  intro PP hPP
  have key : ∀ (k n : Nat) (x : Int), n + (k : Int) = z s 5 → x = (n : Int) → (∀ i : Nat, i < n → 0 ≤ cb_v r z A (cw_g K (r m 0) i)) → PP x := by
    intro k
    induction k with
    | zero =>
      intro n x hk ex P1
      exact hPP x ⟨hs, by omega, by omega, fun _ => two (fun i hi => P1 i (by omega)), fun c => by omega⟩
    | succ k ih =>
      intro n x hk ex P1
      refine hPP x ⟨hs, by omega, by omega, fun c => by omega, fun _ => ⟨hm, p1, by omega, (p4 x.toNat (by omega)).1, wq_c0_sign h.1 (p4 x.toNat (by omega)).1 (fun v va vb vc v4 => by
        have ex9 : x.toNat = n := by omega
        rw [ex9] at va vb vc
        exact ⟨by omega, fun c x1 e1 => ih (n + 1) x1 (by omega) (by omega) (fun i hi => by
          by_cases ei : i = n
          · rw [ei]
            apply Classical.byContradiction
            intro q
            have := vc.mpr (by omega)
            omega
          · exact P1 i (by omega)), fun c => hQ 0 z A h (cF_refl _ _ _ _) (fun _ _ => rfl) (fun _ _ => rfl) (Or.inl ⟨rfl, fun q => by
            have q9 := q.1 n (by omega)
            have q8 := vc.mp (by omega)
            omega⟩)⟩)⟩⟩
  exact key (z s 5).toNat 0 0 (by omega) rfl (fun i hi => by omega)
end CP
