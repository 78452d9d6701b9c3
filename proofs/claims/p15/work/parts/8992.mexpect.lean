/-- the shares of a player's way at the ends, and all of it -/
noncomputable def rx_P (σ : Nat → Nat → Int) (X0 X1 : Nat → Nat → Int) (t : Nat) (e : Nat) : Int := wy_p (wy_f (X0 t) (X1 t) (σ (12 + t)) (cw_tau (σ (16 + t)) 10 (σ (22 + t) e))) (σ 1 t).toNat
noncomputable def rx_1 (σ : Nat → Nat → Int) (X0 X1 : Nat → Nat → Int) (t : Nat) : Int := wy_p (wy_f (X0 t) (X1 t) (σ (12 + t)) (fun _ => -1)) (σ 1 t).toNat
/-- what is to be expected, times all shares -/
noncomputable def rx_V (σ : Nat → Nat → Int) (X0 X1 : Nat → Nat → Int) : Int := cS (fun e => sp_we σ e * (rx_P σ X0 X1 0 e * rx_P σ X0 X1 1 e)) (σ 0 1).toNat
/-- a sum over lines, end by end -/
theorem rx_sum {E n : Nat} {a w pv : Nat → Int} (ha : ∀ e, e < E → 0 ≤ a e ∧ a e < (n : Int)) : cS (fun l => (cS (fun e => if (l : Int) = a e then w e else 0) E) * pv l) n = cS (fun e => w e * pv (a e).toNat) E := by
  have h1 : cS (fun l => (cS (fun e => if (l : Int) = a e then w e else 0) E) * pv l) n = cS (fun l => cS (fun e => (if (l : Int) = a e then w e else 0) * pv l) E) n := cS_congr (fun l _ => (cS_mulr (fun e => if (l : Int) = a e then w e else 0) (pv l) E).symm)
  have h2 : cS (fun l => cS (fun e => (if (l : Int) = a e then w e else 0) * pv l) E) n = cS (fun e => cS (fun l => (if (l : Int) = a e then w e else 0) * pv l) n) E := cS_comm (fun l e => (if (l : Int) = a e then w e else 0) * pv l) n E
  rw [h1, h2]
  refine cS_congr (fun e he => ?_)
  have ae := ha e he
  have h3 : cS (fun l => (if (l : Int) = a e then w e else 0) * pv l) n = (if (((a e).toNat : Nat) : Int) = a e then w e else 0) * pv (a e).toNat := cS_one (f := fun l => (if (l : Int) = a e then w e else 0) * pv l) (q := (a e).toNat) (by omega) (fun j _ hne => by
    show (if (j : Int) = a e then w e else 0) * pv j = 0
    rw [if_neg (fun q => hne (by omega)), Int.zero_mul])
  show cS (fun l => (if (l : Int) = a e then w e else 0) * pv l) n = w e * pv (a e).toNat
  rw [h3, if_pos (by omega)]
theorem rx_step {A σ : Nat → Nat → Int} {g o : Nat} {X0 X1 : Nat → Int} (o2 : o < 2) (hE : A 14 g = σ 0 1) (hG : mg_G A g) (hD : mg_D A g) (sv : sv_R σ) (hX : ∀ i, i < 40 → 1 ≤ X1 i ∧ X0 i * A 50 (40 * o + i) = A 49 (40 * o + i) * X1 i) {e f l j : Nat} (he : (e : Int) < σ 0 1) (y2 : A 20 (400 * g + e) = (f : Int)) (y3 : A 21 (400 * g + e) = (l : Int)) (y6 : wl A o f l = ch σ o 30 (σ (22 + o) e)) (hj : (j : Int) < (l : Int)) :
    (¬ A 22 (f + j) / 10 = (o : Int) → wy_p (wy_f X0 X1 (σ (12 + o)) (mt_t o (wl A o f (j + 1)))) (σ 1 o).toNat = wy_p (wy_f X0 X1 (σ (12 + o)) (mt_t o (wl A o f j))) (σ 1 o).toNat) ∧ (A 22 (f + j) / 10 = (o : Int) → A 50 (4 * A 22 (f + j) + A 23 (f + j)).toNat * wy_p (wy_f X0 X1 (σ (12 + o)) (mt_t o (wl A o f (j + 1)))) (σ 1 o).toNat = A 49 (4 * A 22 (f + j) + A 23 (f + j)).toNat * wy_p (wy_f X0 X1 (σ (12 + o)) (mt_t o (wl A o f j))) (σ 1 o).toNat) := by
  obtain ⟨sn, sm⟩ := (sv.1 o o2)
  have hbn : ∀ s : Nat, (s : Int) < σ 1 o → 1 ≤ wb (fun k => X1 (4 * s + k)) (σ (12 + o) s).toNat ∧ ∀ i, i < (σ (12 + o) s).toNat → X1 (4 * s + i) ∣ wb (fun k => X1 (4 * s + k)) (σ (12 + o) s).toNat := fun s hs => by
    have m9 := ((sm.2 s hs)).1
    obtain ⟨a, b, -⟩ := wb_spec (b := fun k => X1 (4 * s + k)) (n := (σ (12 + o) s).toNat) (fun i hi => (hX (4 * s + i) (by omega)).1)
    exact ⟨a, b⟩
  have hw := (hG.1.2 e (by rw [hE]; exact he)).2.2
  rw [y2, y3] at hw
  obtain ⟨r0, r1, r2, r3⟩ := hw (f + j) (by omega) (by omega)
  refine ⟨fun no9 => ?_, fun is9 => ?_⟩
  · have eo1 : wl A o f (j + 1) = wl A o f j := by
      simp only [wl]
      rw [if_neg no9]
    rw [eo1]
  · have eo1 : wl A o f (j + 1) = (A 22 (f + j), A 23 (f + j)) :: wl A o f j := by
      simp only [wl]
      rw [if_pos is9]
    rw [eo1]
    simp only [mt_t]
    have inl := wl_mem (B := A) (t := o) (f := f) (l := l) (j := j) (by omega) is9
    rw [y6] at inl
    obtain ⟨s, s1, s2, s3, s4⟩ := ch_mem o2 sv 30 _ (sv.2.2 o o2 e he) inl
    have s2 : A 22 (f + j) = 10 * (o : Int) + (s : Int) := s2
    have s3 : 0 ≤ A 23 (f + j) := s3
    have s4 : A 23 (f + j) < σ (12 + o) s := s4
    have es : (A 22 (f + j) - 10 * (o : Int)).toNat = s := by omega
    rw [es]
    have none : mt_t o (wl A o f j) s = -1 := mt_t_none (fun p hp => by
      obtain ⟨j', p1, p2, p3⟩ := wl_inv hp
      have dis := hD.2 e (by rw [hE]; exact he) (f + j') (f + j) (by omega) (by omega) (by rw [y2, y3]; omega)
      have w9 := hw (f + j') (by omega) (by omega)
      rw [p2]
      omega)
    obtain ⟨b1, b2⟩ := hbn s s1
    have hcp : wy_p (wy_f X0 X1 (σ (12 + o)) (lp_U (mt_t o (wl A o f j)) s (A 23 (f + j)))) (σ 1 o).toNat = wy_p (lp_U (wy_f X0 X1 (σ (12 + o)) (mt_t o (wl A o f j))) s (sp_q (wb (fun k => X1 (4 * s + k)) (σ (12 + o) s).toNat) (X1 (4 * s + (A 23 (f + j)).toNat)) * X0 (4 * s + (A 23 (f + j)).toNat))) (σ 1 o).toNat := wy_p_congr (fun i _ => wy_f_upd s3 i)
    have up := wy_p_upd (f := wy_f X0 X1 (σ (12 + o)) (mt_t o (wl A o f j))) (n := (σ 1 o).toNat) (s := s) (t := sp_q (wb (fun k => X1 (4 * s + k)) (σ (12 + o) s).toNat) (X1 (4 * s + (A 23 (f + j)).toNat)) * X0 (4 * s + (A 23 (f + j)).toNat)) (by omega)
    rw [← hcp] at up
    have fs : wy_f X0 X1 (σ (12 + o)) (mt_t o (wl A o f j)) s = wb (fun k => X1 (4 * s + k)) (σ (12 + o) s).toNat := by
      unfold wy_f
      rw [if_pos none]
    rw [fs] at up
    obtain ⟨x1, x2⟩ := hX (4 * s + (A 23 (f + j)).toNat) (by omega)
    have ix : (4 * A 22 (f + j) + A 23 (f + j)).toNat = 40 * o + (4 * s + (A 23 (f + j)).toNat) := by omega
    have mv := wy_move (by omega) x1 (b2 _ (by omega)) rfl up x2
    rw [ix]
    exact mv
theorem rx_1_pos {σ : Nat → Nat → Int} {X0 X1 : Nat → Nat → Int} {t : Nat} (t2 : t < 2) (sv : sv_R σ) (hX : ∀ i, i < 40 → 1 ≤ X1 t i) : 0 < rx_1 σ X0 X1 t := wy_p_pos (fun i hi => by
  have sx := (sv.1 t t2).1
  have mi := ((sv.1 t t2).2.2 i (by omega)).1
  unfold wy_f
  rw [if_pos rfl]
  have q9 := (wb_spec (b := fun q => X1 t (4 * i + q)) (n := (σ (12 + t) i).toNat) (fun k hk => hX (4 * i + k) (by omega))).1
  omega)
theorem rx_mul {b a P Q P' : Int} (s : Int) (h : b * P' = a * P) : b * (s * (P' * Q)) = a * (s * (P * Q)) := by
  have e1 : b * (s * (P' * Q)) = (b * P') * (s * Q) := by rw [Int.mul_left_comm b s, ← Int.mul_assoc b P' Q, Int.mul_left_comm s]
  have e2 : a * (s * (P * Q)) = (a * P) * (s * Q) := by rw [Int.mul_left_comm a s, ← Int.mul_assoc a P Q, Int.mul_left_comm s]
  rw [e1, e2, h]
theorem rx_mul' {b a P Q P' : Int} (s : Int) (h : b * P' = a * P) : b * (s * (Q * P')) = a * (s * (Q * P)) := by
  rw [Int.mul_comm Q P', Int.mul_comm Q P]
  exact rx_mul s h
/-- the model's own way of working it out -/
theorem rx_model {A σ : Nat → Nat → Int} {g : Nat} {X0 X1 : Nat → Nat → Int} (hY : mg_Y g A σ) (hE : A 14 g = σ 0 1) (hG : mg_G A g) (hD : mg_D A g) (sv : sv_R σ) (hX : ∀ t, t < 2 → ∀ i, i < 40 → 1 ≤ X1 t i ∧ X0 t i * A 50 (40 * t + i) = A 49 (40 * t + i) * X1 t i) (x : Nat → Int) :
    0 < A 25 g * (rx_1 σ X0 X1 0 * rx_1 σ X0 X1 1) ∧ ∃ I : Nat → Nat → Int, mj_I A g 2 (A 25 g * (rx_1 σ X0 X1 0 * rx_1 σ X0 X1 1)) x I ∧ cS (fun e => I e (A 21 (400 * g + e)).toNat) (A 14 g).toNat = rx_V σ X0 X1 := by
  have hcm := hG.2.2.2.2.2.1
  have P0 := rx_1_pos (X0 := X0) (t := 0) (by omega) sv (fun i hi => (hX 0 (by omega) i hi).1)
  have P1 := rx_1_pos (X0 := X0) (t := 1) (by omega) sv (fun i hi => (hX 1 (by omega) i hi).1)
  refine ⟨Int.mul_pos (by omega) (Int.mul_pos P0 P1), ?_⟩
  obtain ⟨PT, hPT⟩ : ∃ PT : Nat → Nat → Nat → Int, PT = fun t e j => wy_p (wy_f (X0 t) (X1 t) (σ (12 + t)) (mt_t t (wl A t (A 20 (400 * g + e)).toNat j))) (σ 1 t).toNat := ⟨_, rfl⟩
  obtain ⟨I, hI⟩ : ∃ I : Nat → Nat → Int, I = fun e j => sp_we σ e * (PT 0 e j * PT 1 e j) := ⟨_, rfl⟩
  refine ⟨I, fun e he => ?_, ?_⟩
  · rw [hE] at he
    obtain ⟨y1, f, l, y2, y3, y4, y5, y6⟩ := hY.2.2 e he
    have ef : (A 20 (400 * g + e)).toNat = f := by omega
    have hPe : ∀ t j, PT t e j = wy_p (wy_f (X0 t) (X1 t) (σ (12 + t)) (mt_t t (wl A t f j))) (σ 1 t).toNat := fun t j => by rw [hPT, ← ef]
    have hIe : ∀ j, I e j = sp_we σ e * (PT 0 e j * PT 1 e j) := fun j => by rw [hI]
    rw [ef]
    refine ⟨?_, fun j hj => ?_⟩
    · rw [hIe, hPe, hPe, y1]
      show sp_we σ e * (A 25 g * (rx_1 σ X0 X1 0 * rx_1 σ X0 X1 1)) = A 25 g * (sp_we σ e * (rx_1 σ X0 X1 0 * rx_1 σ X0 X1 1))
      rw [Int.mul_left_comm]
    · rw [y3] at hj
      have hw := (hG.1.2 e (by rw [hE]; exact he)).2.2
      rw [y2, y3] at hw
      obtain ⟨r0, r1, r2, r3⟩ := hw (f + j) (by omega) (by omega)
      have s0 := rx_step (o := 0) (X0 := X0 0) (X1 := X1 0) (by omega) hE hG hD sv (hX 0 (by omega)) he y2 y3 (y6 0 (by omega)) hj
      have s1 := rx_step (o := 1) (X0 := X0 1) (X1 := X1 1) (by omega) hE hG hD sv (hX 1 (by omega)) he y2 y3 (y6 1 (by omega)) hj
      rw [← hPe 0, ← hPe 0] at s0
      rw [← hPe 1, ← hPe 1] at s1
      rw [hIe, hIe]
      refine ⟨fun _ => ?_, fun q => by omega⟩
      by_cases c : A 22 (f + j) / 10 = ((0 : Nat) : Int)
      · rw [s1.1 (by omega)]
        exact rx_mul _ (s0.2 c)
      · rw [s0.1 c]
        exact rx_mul' _ (s1.2 (by omega))
  · unfold rx_V
    rw [hE]
    refine cS_congr (fun e he => ?_)
    have he : (e : Int) < σ 0 1 := by omega
    obtain ⟨y1, f, l, y2, y3, y4, y5, y6⟩ := hY.2.2 e he
    show I e (A 21 (400 * g + e)).toNat = sp_we σ e * (rx_P σ X0 X1 0 e * rx_P σ X0 X1 1 e)
    have hP : ∀ t, t < 2 → PT t e (A 21 (400 * g + e)).toNat = rx_P σ X0 X1 t e := fun t ht => by
      have hdo : rq_d (σ 1 t).toNat (σ (16 + t)) := fun s hs => by
        rcases ((sv.1 t ht).2.2 s (by omega)).2 with c | ⟨c1, c2, -⟩
        · exact Or.inl c
        · exact Or.inr ⟨c1, c2⟩
      have vo := sv.2.2 t ht e he
      have q10 := (sv.1 t ht).1
      rw [hPT]
      show wy_p (wy_f (X0 t) (X1 t) (σ (12 + t)) (mt_t t (wl A t (A 20 (400 * g + e)).toNat (A 21 (400 * g + e)).toNat))) (σ 1 t).toNat = rx_P σ X0 X1 t e
      rw [show (A 20 (400 * g + e)).toNat = f by omega, show (A 21 (400 * g + e)).toNat = l by omega, y6 t ht, mt_t_ch, cw_tau_fuel hdo 30 10 _ (by omega) (by omega) (by omega)]
      rfl
    rw [hI]
    show sp_we σ e * (PT 0 e (A 21 (400 * g + e)).toNat * PT 1 e (A 21 (400 * g + e)).toNat) = _
    rw [hP 0 (by omega), hP 1 (by omega)]
theorem wy_expect {V C0 : Int} {z : Nat → Int} {A : Nat → Nat → Int} {Q : (Nat → Int) → (Nat → Nat → Int) → Prop} (hI : mi_I z A) (HA : z 34 = 1 → ∃ I : Nat → Nat → Int, mj_I A (z 32).toNat 2 C0 (fun s => A 52 (10 * 2 + s)) I ∧ cS (fun e => I e (A 21 (400 * (z 32).toNat + e)).toNat) (A 14 (z 32).toNat).toNat = V) (hQ : ∀ t B, mi_I (lp_U z 3 t) B → me_Z A B → ((t = 0 ∧ (z 34 = 1 ∧ me_G z A 0 ∧ me_G z A 1) ∧ mn_S 1 A B ∧ (∀ i, i ≠ 1 → B 51 i = A 51 i) ∧ B 51 1 = 1 ∧ ∃ N D, 0 < D ∧ mf_H B 4233 N D ∧ N * C0 = D * V) ∨ ((t = 1 ∧ ¬ (z 34 = 1 ∧ me_G z A 0 ∧ me_G z A 1)) ∧ B = A)) → Q (lp_U z 3 t) B) : wp_expect z A Q := by
  have no : ¬ (z 34 = 1 ∧ me_G z A 0 ∧ me_G z A 1) → wp_expect_28 z A Q := by
    intro why z1 hz1
    subst hz1
    rw [lp_U_same]
    exact ⟨⟨by decide, by decide⟩, fun _ => hQ 1 A (mi_3 hI 1) (me_refl A) (Or.inr ⟨⟨rfl, why⟩, rfl⟩), fun c => by omega⟩
  refine ⟨mi_k hI, fun c => no (fun q => by have := q.1; omega), fun c => ?_⟩
  have hk : z 34 = 1 := hI.2.2.1.resolve_left c
  refine wl_isGood (p := 1) hI hk (Or.inl rfl) (fun G1 => ⟨by decide, fun q => absurd q (by decide), fun _ => wl_isGood (p := 2) hI hk (Or.inr rfl) (fun G2 => ⟨by decide, fun q => absurd q (by decide), fun _ z1 hz1 => ?_⟩) (fun n2 => ⟨by decide, fun _ => no (fun q => n2 q.2.2), fun q => absurd rfl q⟩)⟩) (fun n1 => ⟨by decide, fun _ => no (fun q => n1 q.2.1), fun q => absurd rfl q⟩)
  subst hz1
  have hI1 := mi_3 hI 0
  obtain ⟨g, hg, hgz, hgt⟩ := mi_g hI1
  have hG := hI1.2.2.2.2.2.1 hk
  rw [hgt] at hG
  rw [lp_U_same]
  obtain ⟨I9, hI9, hS9⟩ := HA hk
  have egt : (z 32).toNat = g := hgt
  rw [egt] at hI9 hS9
  refine ⟨⟨by decide, by decide⟩, fun d => by omega, fun _ => wy_expectAll (q := 2) (C0 := C0) (I := I9) (Or.inl rfl) (Or.inl rfl) hgz hg hG.1 hG.2.1 hG.2.2 hI1.2.2.2.2.2.2.1 hI1.2.2.2.2.2.2.2.1 (Or.inr (Or.inr ⟨rfl, rfl, rfl⟩)) hI9 (fun B Nc hX hokB hFc hNc => ?_)⟩
  rw [hS9] at hNc
  refine wy_keep (by decide) (by decide) hokB (by rw [hX.1 51 (by decide)]; exact hI1.2.2.2.2.2.2.2.2.1) hFc (fun C hC hokC h51 FC NC o51 => hQ 0 C ?_ (me_of (ms_Z_trans (ms_Z_X hX) (fun k k2 k51 _ _ _ _ _ => hC k k2 k51)) (fun i hi => by rw [o51 i, if_neg (by have : (1 : Int).toNat = 1 := rfl; omega), hX.1 51 (by decide)]) (by rw [hC 53 (by decide) (by decide), hX.1 53 (by decide)])) (Or.inl ⟨rfl, ⟨hk, G1, G2⟩, ?_, fun i hi => by rw [o51 i, if_neg (by have : (1 : Int).toNat = 1 := rfl; omega), hX.1 51 (by decide)], by rw [o51 1]; exact if_pos rfl, Nc, _, hFc.1.1, FC, hNc⟩))
  · exact mi_keep hI1 (fun _ _ _ => rfl) hI1.2.2.2.2.2.2.2.2.2 (ms_Z_trans (ms_Z_X hX) (fun k k2 k51 _ _ _ _ _ => hC k k2 k51)) hokC (by rw [hC 52 (by decide) (by decide), hX.1 52 (by decide)]; exact hI1.2.2.2.2.2.2.2.1) h51
  · exact mn_S_trans (mn_S_X hX (fun u hu c => by omega) hI1.2.2.2.2.2.2.1) (fun u a b c d => NC u (by omega) b c d)
