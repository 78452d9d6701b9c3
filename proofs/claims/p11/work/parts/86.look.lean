section CI
variable {L : List Nat} {K : Nat → cw_K} {r : Nat → Nat → Nat} {z A : Nat → Nat → Int} {w : Nat → Nat × Nat} {ρ : Nat → Nat} {h : Nat} {σ : Nat → Nat → Int}
end CI
section MI
variable {z : Nat → Int} {A : Nat → Nat → Int} {σ : Nat → Nat → Int}
end MI
theorem wl_solveQ {z : Nat → Int} {A : Nat → Nat → Int} {Q : (Nat → Int) → (Nat → Nat → Int) → Prop} (hk : z 34 = 0 ∨ z 34 = 1) (hG : z 34 = 1 → ∃ g : Nat, g < 2 ∧ z 32 = (g : Int) ∧ mg_G A g) (hok : hb_ok A) (hpl : ∀ s, 0 ≤ A 52 s ∧ A 52 s ≤ 100) (hth : ∀ s, A 51 s = 0 ∨ A 51 s = 1)
    (hQ : ∀ t B, ((t = 0 ∧ z 34 = 1) ∨ (t = 1 ∧ z 34 = 0)) → ms_Z A B → hb_ok B → (∀ s, 0 ≤ B 52 s ∧ B 52 s ≤ 100) → (∀ s, B 51 s = 0 ∨ B 51 s = 1) → B 53 = A 53 → B 56 = A 56 → Q (lp_U z 3 t) B) : wp_solve z A Q := by
  refine ⟨by rcases hk with h | h <;> rw [h] <;> exact ⟨by decide, by decide⟩, fun c z1 hz1 => ?_, fun c z1 hz1 => ?_⟩
  · have e3 : z1 3 = 1 := by rw [hz1]; rfl
    rw [e3]
    refine ⟨⟨by decide, by decide⟩, fun d => by omega, fun _ => ?_⟩
    rw [hz1]
    exact hQ 1 A (Or.inr ⟨rfl, c⟩) (ms_Z_refl A) hok hpl hth rfl rfl
  · have e3 : z1 3 = 0 := by rw [hz1]; rfl
    have e32 : z1 32 = z 32 := by rw [hz1]; rfl
    obtain ⟨g, hg, hgz, hE, hS0, hS1, hp0, hp1, hcm⟩ := hG (hk.resolve_left c)
    rw [e3]
    refine ⟨⟨by decide, by decide⟩, fun _ => ?_, fun d => by omega⟩
    rw [e32, hgz]
    have q0 := lq_pp_pos hS0 (A 26 (2 * g + 0)).toNat (by have := hS0.1; omega)
    have q1 := lq_pp_pos hS1 (A 26 (2 * g + 1)).toNat (by have := hS1.1; omega)
    refine wq_plansOf (p := 0) hg (by decide) hS0.1 (wq_plansOf (p := 1) hg (by decide) hS1.1 ?_)
    obtain ⟨r, hr⟩ : ∃ r : Nat, lq_pp A g 0 (A 26 (2 * g + 0)).toNat = (r : Int) := ⟨(lq_pp A g 0 (A 26 (2 * g + 0)).toNat).toNat, by omega⟩
    obtain ⟨c', hc'⟩ : ∃ r : Nat, lq_pp A g 1 (A 26 (2 * g + 1)).toNat = (r : Int) := ⟨(lq_pp A g 1 (A 26 (2 * g + 1)).toNat).toNat, by omega⟩
    rw [hr, hc']
    refine wq_fill (g := g) (n0 := (A 26 (2 * g + 0)).toNat) (n1 := (A 26 (2 * g + 1)).toNat) (by rw [e32]; exact hgz) hg hE (by have := hS0.1; omega) (by have := hS0.1; omega) (by have := hS1.1; omega) (by have := hS1.1; omega) (fun s hs => by have := hS0.2 s (by have := hS0.1; omega); omega) (fun s hs => by have := hS1.2 s (by have := hS1.1; omega); omega) hpl (by omega) (by omega) hok (fun x B a hZ hokB hplB haB hx0 hx1 => ?_)
    refine wq_work (a := a) (by omega) (by omega) (by omega) (by omega) haB hokB (fun C hY hokC hal hal2 hbe hbe2 => ?_)
    have hlen : ∀ (E : Nat → Nat → Int), hb_ok E → ∀ y : Int, 0 ≤ y → y < 4243 → E 1 y.toNat ≤ 130 := fun E hE' y y0 y1 => by
      have h1 := (hE' y y0 (by omega)).1
      have h2 : hb_r y = 130 := by unfold hb_r; rw [if_neg (by omega)]
      rw [h2] at h1
      exact h1.2
    have r3 : hb_r 4243 = 270 := by decide
    have r4 : hb_r 4244 = 270 := by decide
    refine wq_bigSet (by decide) (by decide) (by omega) (fun D hXD hWD hvD hlD => ?_)
    have hokD := hb_ok_one hokC hXD hWD
    have valD : hb_v D (65 * (r : Int) + c') = hb_v C (65 * (r : Int) + c') := hb_X_v hXD (by omega) (by omega) (by omega) (hokC _ (by omega) (by omega))
    have vbeD : hb_v D 4225 = hb_v C 4225 := hb_X_v hXD (by decide) (by decide) (by decide) (hokC _ (by decide) (by decide))
    have lal := hlen D hokD (65 * (r : Int) + c') (by omega) (by omega)
    refine wq_bigProduct (by decide) (by decide) (by decide) (by decide) (by omega) (by omega) (by decide) (by omega) hWD (hokD _ (by omega) (by omega)) (by omega) (fun E hXE hWE hvE hzE => ?_)
    have hokE := hb_ok_one hokD hXE hWE
    refine wq_turnSign (by decide) (by decide) hokE (fun F hXF hokF hvF hzF => ?_)
    have vF : hb_v F 4243 = -(x * hb_v C (65 * (r : Int) + c')) := by rw [hvF, hvE, hvD, valD]
    have bx := lq_big hx0 hx1 (by omega) hal2
    have hbig2 := lq_big2
    have lF : F 1 (4243 : Int).toNat ≤ 130 := hb_len_le (hokF 4243 (by decide) (by decide)) (k := 130) (by
      rw [hb_z_abs (hokF 4243 (by decide) (by decide)), vF]
      omega)
    have lF5 := hlen F hokF 4225 (by decide) (by decide)
    refine wq_bigAdd (by decide) (by decide) (by decide) (by decide) (by decide) (hokF 4243 (by decide) (by decide)) (hokF 4225 (by decide) (by decide)) (by omega) (by omega) (Or.inl rfl) (fun G hXG hWG hvG => ?_)
    have hokG := hb_ok_one hokF hXG hWG
    rw [if_pos rfl] at hvG
    have vbeF : hb_v F 4225 = hb_v C 4225 := by rw [hb_X_v hXF (by decide) (by decide) (by decide) (hokE _ (by decide) (by decide)), hb_X_v hXE (by decide) (by decide) (by decide) (hokD _ (by decide) (by decide)), vbeD]
    have vG : hb_v G 4243 = -(x * hb_v C (65 * (r : Int) + c')) + hb_v C 4225 := by rw [hvG, vF, vbeF]
    have e25 : G 25 g = A 25 g := by
      rw [hXG.1 25 (by decide), hXF.1 25 (by decide), hXE.1 25 (by decide), hXD.1 25 (by decide), hY.1 25 (by decide) (by decide) (by decide), hZ.1 25 (by decide) (by decide) (by decide) (by decide)]
    refine ⟨⟨by omega, by omega⟩, ?_⟩
    have eg : ((g : Int)).toNat = g := by omega
    rw [eg, e25]
    refine wq_bigSet (by decide) (by decide) (by omega) (fun H hXH hWH hvH hlH => ?_)
    have hokH := hb_ok_one hokG hXH hWH
    have valH : hb_v H (65 * (r : Int) + c') = hb_v C (65 * (r : Int) + c') := by
      rw [hb_X_v hXH (by omega) (by omega) (by omega) (hokG _ (by omega) (by omega)), hb_X_v hXG (by omega) (by omega) (by omega) (hokF _ (by omega) (by omega)), hb_X_v hXF (by omega) (by omega) (by omega) (hokE _ (by omega) (by omega)), hb_X_v hXE (by omega) (by omega) (by omega) (hokD _ (by omega) (by omega)), valD]
    have lalH := hlen H hokH (65 * (r : Int) + c') (by omega) (by omega)
    refine wq_bigProduct (by decide) (by decide) (by decide) (by decide) (by omega) (by omega) (by decide) (by omega) hWH (hokH _ (by omega) (by omega)) (by omega) (fun I hXI hWI hvI hzI => ?_)
    have hokI := hb_ok_one hokH hXI hWI
    have vI4 : hb_v I 4244 = A 25 g * hb_v C (65 * (r : Int) + c') := by rw [hvI, hvH, valH]
    have vI3 : hb_v I 4243 = -(x * hb_v C (65 * (r : Int) + c')) + hb_v C 4225 := by
      rw [hb_X_v hXI (by decide) (by decide) (by decide) (hokH _ (by decide) (by decide)), hb_X_v hXH (by decide) (by decide) (by decide) hWG, vG]
    have bc := lq_big (x := A 25 g) hcm.1 (by omega) (show 0 ≤ hb_v C (65 * (r : Int) + c') by omega) hal2
    have bpos : 0 < A 25 g * hb_v C (65 * (r : Int) + c') := Int.mul_pos (by omega) hal
    have z3 : hb_z I 4243 < 16777216 ^ 130 := by
      rw [hb_z_abs (hokI 4243 (by decide) (by decide)), vI3]
      have : (142936511610880 ^ 65 : Int) ≤ 400000000001 * 142936511610880 ^ 65 := by decide +kernel
      omega
    have z4 : hb_z I 4244 < 16777216 ^ 130 := by
      rw [hb_z_abs (hokI 4244 (by decide) (by decide)), vI4]
      omega
    refine wq_settle (by decide) (by decide) hokI (by rw [vI4]; exact bpos) (Int.lt_of_le_of_lt (Int.ediv_le_self _ (hb_z_nonneg (hb_W_P (hokI 4243 (by decide) (by decide))))) z3) (Int.lt_of_le_of_lt (Int.ediv_le_self _ (hb_z_nonneg (hb_W_P (hokI 4244 (by decide) (by decide))))) z4) (fun K hXK hokK _ _ L hL => ?_)
    have hKL : lq_K 51 K L := by rw [hL]; exact lq_K_s _ _ _ _
    have hZ0 : ms_Z A K := ms_Z_trans (ms_Z_Z hZ) (ms_Z_trans (ms_Z_Y hY) (ms_Z_trans (ms_Z_X hXD) (ms_Z_trans (ms_Z_X hXE) (ms_Z_trans (ms_Z_X hXF) (ms_Z_trans (ms_Z_X hXG) (ms_Z_trans (ms_Z_X hXH) (ms_Z_trans (ms_Z_X hXI) (ms_Z_X hXK))))))))
    have back : ∀ k, 2 < k → K k = C k := fun k hk => by
      rw [hXK.1 k hk, hXI.1 k hk, hXH.1 k hk, hXG.1 k hk, hXF.1 k hk, hXE.1 k hk, hXD.1 k hk]
    have k52 : K 52 = B 52 := by rw [back 52 (by decide), hY.1 52 (by decide) (by decide) (by decide)]
    have k51 : K 51 = A 51 := by rw [back 51 (by decide), hY.1 51 (by decide) (by decide) (by decide), hZ.1 51 (by decide) (by decide) (by decide) (by decide)]
    have k53 : K 53 = A 53 := by rw [back 53 (by decide), hY.1 53 (by decide) (by decide) (by decide), hZ.1 53 (by decide) (by decide) (by decide) (by decide)]
    have k56 : K 56 = A 56 := by rw [back 56 (by decide), hY.1 56 (by decide) (by decide) (by decide), hZ.1 56 (by decide) (by decide) (by decide) (by decide)]
    rw [hz1]
    refine hQ 0 L (Or.inl ⟨rfl, hk.resolve_left c⟩) (ms_Z_trans hZ0 (ms_Z_K (Or.inl rfl) hKL)) (hb_ok_K (by decide) hKL hokK) (fun s => by rw [hKL 52 (by decide), k52]; exact hplB s) (fun s => ?_) (by rw [hKL 53 (by decide), k53]) (by rw [hKL 56 (by decide), k56])
    rw [hL, lq_s_fun]
    unfold hz_u
    split
    · exact Or.inr rfl
    · rw [k51]
      exact hth s
theorem wl_solve {z : Nat → Int} {A : Nat → Nat → Int} {Q : (Nat → Int) → (Nat → Nat → Int) → Prop} (hI : mi_I z A) (hQ : ∀ t B, mi_I (lp_U z 3 t) B → md_Z A B → ((t = 0 ∧ z 34 = 1) ∨ (t = 1 ∧ z 34 = 0)) → Q (lp_U z 3 t) B) : wp_solve z A Q := by
  obtain ⟨g, hg, hgz, hgt⟩ := mi_g hI
  refine wl_solveQ hI.2.2.1 (fun hk => ⟨g, hg, hgz, by have := (hI.2.2.2.2.2.1 hk).1; rw [hgt] at this; exact this⟩) hI.2.2.2.2.2.2.1 hI.2.2.2.2.2.2.2.1 hI.2.2.2.2.2.2.2.2.1 (fun t B ht hZ hokB h52 h51 _ _ => hQ t B ?_ (md_of hZ) ht)
  exact mi_keep (mi_3 hI t) (fun _ _ _ => rfl) (mi_3 hI t).2.2.2.2.2.2.2.2.2 hZ hokB h52 h51
section CI
variable {L : List Nat} {K : Nat → cw_K} {r r' : Nat → Nat → Nat} {z A : Nat → Nat → Int} {w : Nat → Nat × Nat} {ρ : Nat → Nat} {S : Nat → Prop} {h g R : Nat} {σ : Nat → Nat → Int}
theorem wl_c11_solve (I : ci_I L K r w ρ z A h) {Q : (Nat → Nat → Int) → (Nat → Nat → Int) → Prop} {X : String → (Nat → Nat → Int) → (Nat → Nat → Int) → Prop} (hQ : z h 14 = 1 → ∀ z' A' : Nat → Nat → Int, ci_I L K r w ρ z' A' h → z' (r (r h 0) 2) 1 = z (r (r h 0) 2) 1 → ci_D ρ h z A z' A' → Q z' A') (hX : z h 14 = 0 → X "java/lang/IllegalStateException" z A) : wp_c11_solve L K z r A h Q X := by
  obtain ⟨hdg, h1, h2, h3, h4, h6, h7, h8, h9⟩ := id I.1
  obtain ⟨⟨a1, a2⟩, -, ⟨c1, c2, c3⟩, -, ⟨v1, v2⟩, -, -, ⟨i1, i2, i3⟩, -, -, ⟨l1, l2, l3⟩, -⟩ := id I.2.1
  have pg := (ci_g I).2
  have g1 := I.2.2.2.2.1
  obtain ⟨p1, p2⟩ := i3 0 (by omega)
  obtain ⟨q1, q2⟩ := i3 1 (by omega)
  obtain ⟨R1, R2⟩ := l3 0 (by omega)
  refine ⟨a1, by omega, fun c => ?_, fun c => hX c⟩
  have hg : z h 14 = 1 := by omega
  have hF := I.2.2.2.2.2.1 hg
  refine ⟨v1, wq_c8_work (S := fun q => q = 2) I.2.2.1 hdg h1 h2 h7 h8 v1 v2 hF (by show ¬ ρ (r h 13) = 2; omega) (fun z1 A1 J1 F1 hI1 => ⟨i1, by omega, by omega, ?_⟩)⟩
  obtain ⟨m9, a9, b9, c9, hI1⟩ := hI1
  show wp_c8_handOver L K z1 r A1 (r h 3) (cw_g K (r h 6) 0) (cw_g K (r h 6) 1) _
  refine wq_c8_handOver (S := fun q => q = 7 ∨ q = 8) J1 h1 h3 h8 v1 hI1 p1 q1 (Or.inl p2) (Or.inr q2) (fun e => by rw [e] at p2; omega) (by rw [v2]; omega) (fun z2 A2 J2 F2 M2 N2 => ⟨l1, by omega, ?_⟩)
  have hI2 := cz_I_keepF h1 h8 v1 hI1 F2 (by rw [v2]; omega)
  refine wq_c8_top (S := fun q => q = 2) J2 h1 h8 v1 v2 hI2 (fun z3 A3 J3 F3 lt3 => ⟨by omega, p1, (h3 _ p1).1.1, by have := (h3 _ p1).1.2.1; show (0 : Int) ≤ 0 ∧ (0 : Int) < (cw_n K (r (cw_g K (r h 6) 0) 0) : Int); omega, hF.1, R1, ?_⟩)
  show wp_c4_put L K z3 r A3 (cw_g K (r h 9) 0) (r (r h 3) 10) (cw_g K (r (cw_g K (r h 6) 0) 0) 0) (z3 (r h 13) 2) _
  obtain ⟨⟨y1, y2, y3, y4⟩, -⟩ := h3 _ p1
  obtain ⟨⟨x1, x2, x3, x4⟩, -⟩ := h3 _ q1
  obtain ⟨-, -, -, -, -, ⟨t1, t2, t3, t4⟩, -, -⟩ := h8 _ v1
  have lp := (J3.1.2 _ (y4 0 (by omega)).1).1
  have lq := (y4 0 (by omega)).2.1
  refine wq_c4_put (S := fun q => q = 12) J3 h1 h4 R1 R2 t1 (y4 0 (by omega)).1 (by rw [t4, v2, R2]; decide) (by rw [(y4 0 (by omega)).2.2.2, p2, R2]; decide) lt3 (by omega) (fun z4 A4 J4 F4 kn => ?_)
  have F : cF ρ (fun q => q = 2 ∨ q = 7 ∨ q = 8 ∨ q = 12) z A z4 A4 := cF_trans (cF_trans (cF_trans (cF_mono F1 (fun q hq => Or.inl hq)) (cF_mono F2 (fun q hq => by omega))) (cF_mono F3 (fun q hq => Or.inl hq))) (cF_mono F4 (fun q hq => by omega))
  have F34 : cF ρ (fun q => q = 2 ∨ q = 12) z2 A2 z4 A4 := cF_trans (cF_mono F3 (fun q hq => Or.inl hq)) (cF_mono F4 (fun q hq => Or.inr hq))
  refine hQ hg z4 A4 (ci_keep I F J4 (by show ¬ (_ ∨ _ ∨ _ ∨ _); omega) (fun q => by omega) (fun q => by omega) (fun i hi q => by omega) (fun i hi q => by omega) (fun i hi q => ?_) (fun i hi q => ?_)) (by rw [(F _ (by rw [c2]; omega)).1]) ⟨cF_mono F (fun q hq => by omega), fun y _ => by rw [(F h (by rw [a2]; omega)).1]⟩
  · have : i = 0 ∨ i = 1 := by omega
    rcases this with rfl | rfl
    · intro x hx
      rw [(cF_big h1 F34 (y4 x hx).1 (by rw [(y4 x hx).2.2.2, p2]; omega)).1]
      exact M2 x hx
    · intro x hx
      rw [(cF_big h1 F34 (x4 x hx).1 (by rw [(x4 x hx).2.2.2, q2]; omega)).1]
      exact N2 x hx
  · have : i = 0 := by omega
    subst this
    exact ⟨Or.inr kn, fun _ => hg⟩
end CI
