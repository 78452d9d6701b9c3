noncomputable def la_is (g : Int) (σ : Nat → Nat → Int) (p s : Int) : Prop := g = 1 ∧ (p = 1 ∨ p = 2) ∧ 0 ≤ s ∧ s < σ 1 (p - 1).toNat
/-- tell: 1 no such move, 2 no such chance -/
noncomputable def la_mv (g : Int) (σ : Nat → Nat → Int) (p s m : Int) : Prop := la_is g σ p s ∧ 0 ≤ m ∧ m < σ (12 + (p - 1).toNat) s.toNat
noncomputable def la_tell (g : Int) (σ : Nat → Nat → Int) (p s m a b x : Int) : Prop := (¬ la_mv g σ p s m ∧ x = 1) ∨ (la_mv g σ p s m ∧ ¬ (1 ≤ b ∧ b ≤ 9999 ∧ 0 ≤ a ∧ a ≤ b) ∧ x = 2) ∨ (la_mv g σ p s m ∧ (1 ≤ b ∧ b ≤ 9999 ∧ 0 ≤ a ∧ a ≤ b) ∧ x = 0)
theorem la_tell_u {g : Int} {σ : Nat → Nat → Int} {p s m a b x x' : Int} (h : la_tell g σ p s m a b x) (h' : la_tell g σ p s m a b x') : x = x' := by
  rcases h with ⟨a1, b1⟩ | ⟨a1, c1, b1⟩ | ⟨a1, c1, b1⟩ <;> rcases h' with ⟨a2, b2⟩ | ⟨a2, c2, b2⟩ | ⟨a2, c2, b2⟩
  · rw [b1, b2]
  · exact absurd a2 a1
  · exact absurd a2 a1
  · exact absurd a1 a2
  · rw [b1, b2]
  · exact absurd c2 c1
  · exact absurd a1 a2
  · exact absurd c1 c2
  · rw [b1, b2]
section CI
variable {L : List Nat} {K : Nat → cw_K} {r : Nat → Nat → Nat} {z A : Nat → Nat → Int} {w : Nat → Nat × Nat} {ρ : Nat → Nat} {h : Nat} {σ : Nat → Nat → Int}
theorem wl_c11_isPlaying {p : Int} (I : ci_I L K r w ρ z A h) (hp : hz_rI p) {Q : Int → Prop} (h1 : (p = 1 ∨ p = 2) → z h 14 = 1 → Q 1) (h0 : ¬ (z h 14 = 1 ∧ (p = 1 ∨ p = 2)) → Q 0) : wp_c11_isPlaying L K z r A h p Q := by
  have g1 := I.2.2.2.2.1
  refine ⟨I.2.1.1.1, by omega, fun c => ⟨by omega, h0 (by omega)⟩, fun c => wq_c11_isPlayer hp (fun hp1 => ⟨by decide, fun c9 => absurd c9 (by decide), fun _ => ⟨by omega, h1 hp1 (by omega)⟩⟩) (fun np => ⟨by decide, fun _ => ⟨by omega, h0 (fun q => np q.2)⟩, fun c9 => absurd rfl c9⟩)⟩
theorem wl_c7_hasSet {s : Nat} {i : Int} (hs : cw_O L K 7 s) (hz : 0 ≤ z s 0 ∧ z s 0 ≤ 10) (hi : hz_rI i) {Q : Int → Prop} (h1 : (0 ≤ i ∧ i < z s 0) → Q 1) (h0 : ¬ (0 ≤ i ∧ i < z s 0) → Q 0) : wp_c7_hasSet L K z r A s i Q := by
  refine ⟨hi, fun c => ⟨by omega, h0 (by omega)⟩, fun c => ⟨hs, hi, by omega, fun c2 => ⟨by omega, h0 (by omega)⟩, fun c2 => ⟨by omega, h1 (by omega)⟩⟩⟩
theorem wl_c7_hasMove {s : Nat} {i j : Int} (h7 : cg_7 L K r w ρ) (F : cs_F L K r z A s) (hi : hz_rI i) (hj : hz_rI j) {Q : Int → Prop} (h1 : (0 ≤ i ∧ i < z s 0) → (0 ≤ j ∧ j < A (r s 2) i.toNat) → j < 4 → Q 1) (h0 : ¬ ((0 ≤ i ∧ i < z s 0) ∧ (0 ≤ j ∧ j < A (r s 2) i.toNat)) → Q 0) : wp_c7_hasMove L K z r A s i j Q := by
  obtain ⟨f1, f2, f3, f4⟩ := F
  obtain ⟨-, ⟨b1, b2, -, -⟩, -, -, -, -⟩ := h7 s f1
  have no : ¬ ((0 ≤ i ∧ i < z s 0) ∧ (0 ≤ j ∧ j < A (r s 2) i.toNat)) → wp_c7_hasMove_26 L K z r A Q := fun n => ⟨Or.inl rfl, h0 n⟩
  refine ⟨f1, wl_c7_hasSet f1 f2 hi (fun hi2 => ⟨by decide, fun q => absurd q (by decide), fun _ => ⟨hj, fun c => no (by omega), fun c => ⟨b1, by omega, hj, ?_, fun c2 => no (by omega), fun c2 => ⟨Or.inr rfl, ?_⟩⟩⟩⟩) (fun n => ⟨by decide, fun _ => no (fun q => n q.1), fun q => absurd rfl q⟩)⟩
  · have := (f4 i.toNat (by omega)).1
    omega
  · have := (f4 i.toNat (by omega)).1
    exact h1 hi2 (by omega) (by omega)
end CI
section MI
variable {z : Nat → Int} {A : Nat → Nat → Int} {σ : Nat → Nat → Int}
theorem wl_isPlayer {p : Int} {Q : Int → Prop} (hI : mi_I z A) (hp : hz_rI p) (h1 : z 34 = 1 → (p = 1 ∨ p = 2) → Q 1) (h0 : ¬ (z 34 = 1 ∧ (p = 1 ∨ p = 2)) → Q 0) : wp_isPlayer z A p Q := by
  have hk := hI.2.2.1
  exact ⟨mi_k hI, fun c => ⟨Or.inl rfl, h0 (by omega)⟩, fun c => ⟨hp, fun d => ⟨Or.inr rfl, h1 (by omega) (Or.inl d)⟩, fun d => ⟨hp, fun e => ⟨Or.inl rfl, h0 (by omega)⟩, fun e => ⟨Or.inr rfl, h1 (by omega) (Or.inr e)⟩⟩⟩⟩
theorem wl_isSet {p s : Int} {Q : Int → Prop} (hI : mi_I z A) (hp : hz_rI p) (hs : hz_rI s) (G : z 34 = 1 → mg_R (z 32).toNat A σ) (h1 : la_is (z 34) σ p s → Q 1) (h0 : ¬ la_is (z 34) σ p s → Q 0) : wp_isSet z A p s Q := by
  refine wl_isPlayer hI hp (fun h2 h3 => ⟨by decide, fun q => absurd q (by decide), fun _ => ⟨hs, fun d => ⟨Or.inl rfl, h0 (fun q => by have := q.2.2.1; omega)⟩, fun d => ?_⟩⟩) (fun n => ⟨by decide, fun _ => ⟨Or.inl rfl, h0 (fun q => n ⟨q.1, q.2.1⟩)⟩, fun q => absurd rfl q⟩)
  have hS := (mi_S hI h2 h3 rfl).1
  have n1 := (G h2).2.1 (p - 1).toNat (by omega)
  exact wq_setsOf hI h3 ⟨hs, ⟨by omega, by omega⟩, fun e => ⟨Or.inl rfl, h0 (fun q => by have := q.2.2.2; omega)⟩, fun e => ⟨Or.inr rfl, h1 ⟨h2, h3, by omega, by omega⟩⟩⟩
/-- as of z, so when 'nothing thrown' is noted -/
theorem mg_G3 (G : z 34 = 1 → mg_R (z 32).toNat A σ) : lp_U z 3 0 34 = 1 → mg_R (lp_U z 3 0 32).toNat A σ := by
  have e4 : lp_U z 3 0 34 = z 34 := lp_U_other (by decide)
  have e2 : lp_U z 3 0 32 = z 32 := lp_U_other (by decide)
  rw [e4, e2]
  exact G
end MI
theorem wl_solveQ {z : Nat → Int} {A : Nat → Nat → Int} {Q : (Nat → Int) → (Nat → Nat → Int) → Prop} (hk : z 34 = 0 ∨ z 34 = 1) (hG : z 34 = 1 → ∃ g : Nat, g < 2 ∧ z 32 = (g : Int) ∧ mg_G A g) (hok : hb_ok A) (hpl : ∀ s, 0 ≤ A 52 s ∧ A 52 s ≤ 100) (hth : ∀ s, A 51 s = 0 ∨ A 51 s = 1)
    (hQ : ∀ t B, ((t = 0 ∧ z 34 = 1) ∨ (t = 1 ∧ z 34 = 0)) → ms_Z A B → hb_ok B → (∀ s, 0 ≤ B 52 s ∧ B 52 s ≤ 100) → (∀ s, B 51 s = 0 ∨ B 51 s = 1) → B 53 = A 53 → (B 56 = A 56 ∧ ∀ i, i = 2 ∨ i = 3 → B 51 i = A 51 i) → Q (lp_U z 3 t) B) : wp_solve z A Q := by
  refine ⟨by rcases hk with h | h <;> rw [h] <;> exact ⟨by decide, by decide⟩, fun c z1 hz1 => ?_, fun c z1 hz1 => ?_⟩
  · have e3 : z1 3 = 1 := by rw [hz1]; rfl
    rw [e3]
    refine ⟨⟨by decide, by decide⟩, fun d => by omega, fun _ => ?_⟩
    rw [hz1]
    exact hQ 1 A (Or.inr ⟨rfl, c⟩) (ms_Z_refl A) hok hpl hth rfl ⟨rfl, fun _ _ => rfl⟩
  · have e3 : z1 3 = 0 := by rw [hz1]; rfl
    have e32 : z1 32 = z 32 := by rw [hz1]; rfl
    obtain ⟨g, hg, hgz, hE, hS0, hS1, hp0, hp1, hcm⟩ := hG (hk.resolve_left c)
    rw [e3]
    refine ⟨⟨by decide, by decide⟩, fun _ => ?_, fun d => by omega⟩
    rw [e32, hgz]
    have q0 := lq_pp_pos hS0 (A 26 (2 * g + 0)).toNat (by have := hS0.1; omega)
    have q1 := lq_pp_pos hS1 (A 26 (2 * g + 1)).toNat (by have := hS1.1; omega)
    refine wq_plansOf (p := 0) hg (by decide) hS0.1 (wq_plansOf (p := 1) hg (by decide) hS1.1 ?_)
    obtain ⟨r, hr⟩ : ∃ r : Nat, lq_pp A g 0 (A 26 (2 * g + 0)).toNat = (r : Int) := ⟨(lq_pp A g 0 (A 26 (2 * g + 0)).toNat).toNat, by omega⟩
    obtain ⟨c', hc'⟩ : ∃ r : Nat, lq_pp A g 1 (A 26 (2 * g + 1)).toNat = (r : Int) := ⟨(lq_pp A g 1 (A 26 (2 * g + 1)).toNat).toNat, by omega⟩
    rw [hr, hc']
    refine wq_fill (g := g) (n0 := (A 26 (2 * g + 0)).toNat) (n1 := (A 26 (2 * g + 1)).toNat) (by rw [e32]; exact hgz) hg hE (by have := hS0.1; omega) (by have := hS0.1; omega) (by have := hS1.1; omega) (by have := hS1.1; omega) (fun s hs => by have := hS0.2 s (by have := hS0.1; omega); omega) (fun s hs => by have := hS1.2 s (by have := hS1.1; omega); omega) hpl (by omega) (by omega) hok (fun x B a hZ hokB hplB haB hx0 hx1 => ?_)
    refine wq_work (a := a) (by omega) (by omega) (by omega) (by omega) haB hokB (fun C hY hokC hal hal2 hbe hbe2 => ?_)
    have hlen : ∀ (E : Nat → Nat → Int), hb_ok E → ∀ y : Int, 0 ≤ y → y < 4243 → E 1 y.toNat ≤ 130 := fun E hE' y y0 y1 => by
      have h1 := (hE' y y0 (by omega)).1
      have h2 : hb_r y = 130 := by unfold hb_r; rw [if_neg (by omega)]
      rw [h2] at h1
      exact h1.2
    have r3 : hb_r 4243 = 270 := by decide
    have r4 : hb_r 4244 = 270 := by decide
    refine wq_bigSet (by decide) (by decide) (by omega) (fun D hXD hWD hvD hlD => ?_)
    have hokD := hb_ok_one hokC hXD hWD
    have valD : hb_v D (65 * (r : Int) + c') = hb_v C (65 * (r : Int) + c') := hb_X_v hXD (by omega) (by omega) (by omega) (hokC _ (by omega) (by omega))
    have vbeD : hb_v D 4225 = hb_v C 4225 := hb_X_v hXD (by decide) (by decide) (by decide) (hokC _ (by decide) (by decide))
    have lal := hlen D hokD (65 * (r : Int) + c') (by omega) (by omega)
    refine wq_bigProduct (by decide) (by decide) (by decide) (by decide) (by omega) (by omega) (by decide) (by omega) hWD (hokD _ (by omega) (by omega)) (by omega) (fun E hXE hWE hvE hzE => ?_)
    have hokE := hb_ok_one hokD hXE hWE
    refine wq_turnSign (by decide) (by decide) hokE (fun F hXF hokF hvF hzF => ?_)
    have vF : hb_v F 4243 = -(x * hb_v C (65 * (r : Int) + c')) := by rw [hvF, hvE, hvD, valD]
    have bx := lq_big hx0 hx1 (by omega) hal2
    have hbig2 := lq_big2
    have lF : F 1 (4243 : Int).toNat ≤ 130 := hb_len_le (hokF 4243 (by decide) (by decide)) (k := 130) (by
      rw [hb_z_abs (hokF 4243 (by decide) (by decide)), vF]
      omega)
    have lF5 := hlen F hokF 4225 (by decide) (by decide)
    refine wq_bigAdd (by decide) (by decide) (by decide) (by decide) (by decide) (hokF 4243 (by decide) (by decide)) (hokF 4225 (by decide) (by decide)) (by omega) (by omega) (Or.inl rfl) (fun G hXG hWG hvG => ?_)
    have hokG := hb_ok_one hokF hXG hWG
    rw [if_pos rfl] at hvG
    have vbeF : hb_v F 4225 = hb_v C 4225 := by rw [hb_X_v hXF (by decide) (by decide) (by decide) (hokE _ (by decide) (by decide)), hb_X_v hXE (by decide) (by decide) (by decide) (hokD _ (by decide) (by decide)), vbeD]
    have vG : hb_v G 4243 = -(x * hb_v C (65 * (r : Int) + c')) + hb_v C 4225 := by rw [hvG, vF, vbeF]
    have e25 : G 25 g = A 25 g := by
      rw [hXG.1 25 (by decide), hXF.1 25 (by decide), hXE.1 25 (by decide), hXD.1 25 (by decide), hY.1 25 (by decide) (by decide) (by decide), hZ.1 25 (by decide) (by decide) (by decide) (by decide)]
    refine ⟨⟨by omega, by omega⟩, ?_⟩
    have eg : ((g : Int)).toNat = g := by omega
    rw [eg, e25]
    refine wq_bigSet (by decide) (by decide) (by omega) (fun H hXH hWH hvH hlH => ?_)
    have hokH := hb_ok_one hokG hXH hWH
    have valH : hb_v H (65 * (r : Int) + c') = hb_v C (65 * (r : Int) + c') := by
      rw [hb_X_v hXH (by omega) (by omega) (by omega) (hokG _ (by omega) (by omega)), hb_X_v hXG (by omega) (by omega) (by omega) (hokF _ (by omega) (by omega)), hb_X_v hXF (by omega) (by omega) (by omega) (hokE _ (by omega) (by omega)), hb_X_v hXE (by omega) (by omega) (by omega) (hokD _ (by omega) (by omega)), valD]
    have lalH := hlen H hokH (65 * (r : Int) + c') (by omega) (by omega)
    refine wq_bigProduct (by decide) (by decide) (by decide) (by decide) (by omega) (by omega) (by decide) (by omega) hWH (hokH _ (by omega) (by omega)) (by omega) (fun I hXI hWI hvI hzI => ?_)
    have hokI := hb_ok_one hokH hXI hWI
    have vI4 : hb_v I 4244 = A 25 g * hb_v C (65 * (r : Int) + c') := by rw [hvI, hvH, valH]
    have vI3 : hb_v I 4243 = -(x * hb_v C (65 * (r : Int) + c')) + hb_v C 4225 := by
      rw [hb_X_v hXI (by decide) (by decide) (by decide) (hokH _ (by decide) (by decide)), hb_X_v hXH (by decide) (by decide) (by decide) hWG, vG]
    have bc := lq_big (x := A 25 g) hcm.1 (by omega) (show 0 ≤ hb_v C (65 * (r : Int) + c') by omega) hal2
    have bpos : 0 < A 25 g * hb_v C (65 * (r : Int) + c') := Int.mul_pos (by omega) hal
    have z3 : hb_z I 4243 < 16777216 ^ 130 := by
      rw [hb_z_abs (hokI 4243 (by decide) (by decide)), vI3]
      have : (142936511610880 ^ 65 : Int) ≤ 400000000001 * 142936511610880 ^ 65 := by decide +kernel
      omega
    have z4 : hb_z I 4244 < 16777216 ^ 130 := by
      rw [hb_z_abs (hokI 4244 (by decide) (by decide)), vI4]
      omega
    refine wq_settle (by decide) (by decide) hokI (by rw [vI4]; exact bpos) (Int.lt_of_le_of_lt (Int.ediv_le_self _ (hb_z_nonneg (hb_W_P (hokI 4243 (by decide) (by decide))))) z3) (Int.lt_of_le_of_lt (Int.ediv_le_self _ (hb_z_nonneg (hb_W_P (hokI 4244 (by decide) (by decide))))) z4) (fun K hXK hokK _ _ L hL => ?_)
    have hKL : lq_K 51 K L := by rw [hL]; exact lq_K_s _ _ _ _
    have hZ0 : ms_Z A K := ms_Z_trans (ms_Z_Z hZ) (ms_Z_trans (ms_Z_Y hY) (ms_Z_trans (ms_Z_X hXD) (ms_Z_trans (ms_Z_X hXE) (ms_Z_trans (ms_Z_X hXF) (ms_Z_trans (ms_Z_X hXG) (ms_Z_trans (ms_Z_X hXH) (ms_Z_trans (ms_Z_X hXI) (ms_Z_X hXK))))))))
    have back : ∀ k, 2 < k → K k = C k := fun k hk => by
      rw [hXK.1 k hk, hXI.1 k hk, hXH.1 k hk, hXG.1 k hk, hXF.1 k hk, hXE.1 k hk, hXD.1 k hk]
    have k52 : K 52 = B 52 := by rw [back 52 (by decide), hY.1 52 (by decide) (by decide) (by decide)]
    have k51 : K 51 = A 51 := by rw [back 51 (by decide), hY.1 51 (by decide) (by decide) (by decide), hZ.1 51 (by decide) (by decide) (by decide) (by decide)]
    have k53 : K 53 = A 53 := by rw [back 53 (by decide), hY.1 53 (by decide) (by decide) (by decide), hZ.1 53 (by decide) (by decide) (by decide) (by decide)]
    have k56 : K 56 = A 56 := by rw [back 56 (by decide), hY.1 56 (by decide) (by decide) (by decide), hZ.1 56 (by decide) (by decide) (by decide) (by decide)]
    rw [hz1]
    refine hQ 0 L (Or.inl ⟨rfl, hk.resolve_left c⟩) (ms_Z_trans hZ0 (ms_Z_K (Or.inl rfl) hKL)) (hb_ok_K (by decide) hKL hokK) (fun s => by rw [hKL 52 (by decide), k52]; exact hplB s) (fun s => ?_) (by rw [hKL 53 (by decide), k53]) ⟨by rw [hKL 56 (by decide), k56], fun i hi => by
      rw [hL, lq_s_fun]
      unfold hz_u
      rw [if_neg (by omega), k51]⟩
    rw [hL, lq_s_fun]
    unfold hz_u
    split
    · exact Or.inr rfl
    · rw [k51]
      exact hth s
section CI
variable {L : List Nat} {K : Nat → cw_K} {r r' : Nat → Nat → Nat} {z A : Nat → Nat → Int} {w : Nat → Nat × Nat} {ρ : Nat → Nat} {S : Nat → Prop} {h g R : Nat} {σ : Nat → Nat → Int}
end CI
