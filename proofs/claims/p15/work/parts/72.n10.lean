theorem mr_Q_mono {d n k k' : Nat} {A C : Nat → Nat → Int} {X : sp_S} {z' : Nat → Int} (h : k ≤ k') (hq : mr_Q d n A X k' z' C) : mr_Q d n A X k z' C := by
  obtain ⟨hx, hq⟩ := hq
  rcases hq with hq | ⟨h1, h2, h3⟩
  · exact ⟨hx, Or.inl hq⟩
  · exact ⟨hx, Or.inr ⟨h1, go_I_mono h h2, h3⟩⟩
theorem wv_finish {T : sp_T} {σ : Nat → Nat → Int} {f : sp_F} {F : List sp_F} {k : Nat} {z : Nat → Int} {B : Nat → Nat → Int} {d j : Nat} {c : Int} {Q : (Nat → Int) → (Nat → Nat → Int) → Prop} (pl : B 8 f.1 = T.2.1 f.1) (hM : mr_B d B σ (f :: F)) (hjF : j = F.length) (hd : d < 2) (hz : z 33 = (d : Int)) (hj : j ≤ 20) (hf : z 35 = 0) (hG : go_G B d (j + 1) c (-1)) (hc : c ≤ 400) (h0 : 0 ≤ B 40 j)
    (hQ0 : ∀ z' C, sp_fi T σ k f F = sp_x (z' 35) (z' 36) → mo_stop z z' → (∀ k, k ≠ 28 → C k = B k) → (∀ i, (i < 20 * d ∨ 20 * d + 20 ≤ i) → C 28 i = B 28 i) → Q z' C) (hQ1 : B 38 j = 63 → sp_fi T σ k f F = (0, -1, k + 1, σ, F) → Q z B)
    (hQ2 : ∀ C, B 38 j ≠ 63 → B 40 j + 1 ≤ 4 → (∀ k, k ≠ 28 → C k = B k) → (∀ i, C 28 i = if i = 20 * d + (B 39 j).toNat then B 40 j + 1 else B 28 i) → (∃ σ', sp_fi T σ k f F = (0, -1, k + 1, σ', F) ∧ mr_B d C σ' F) → Q z C) : wp_finish z B (j : Int) Q := by
  obtain ⟨hN, hS, hT, hP, hH, hZ, hE⟩ := hG
  obtain ⟨n1, n2, n3, n4⟩ := hN j (by omega)
  have hf' : hz_rI (z 35) := by rw [hf]; exact ⟨by decide, by decide⟩
  have ej : ((j : Int)).toNat = j := by omega
  obtain ⟨w, kd, t, i, mv, tp, bt, l⟩ := f
  have hM' := hM
  obtain ⟨mc, mn, ms, me, ⟨f1, f2, f3, f4, f5, f6, f7⟩, f8⟩ := hM'
  rw [← hjF] at f1 f2 f3 f4 f5 f7
  have f1 : B 37 j = (w : Int) := f1
  have f2 : B 38 j = kd := f2
  have f3 : B 40 j = mv := f3
  have pl : B 8 w = T.2.1 w := pl
  have ppl : B 8 (B 37 j).toNat = T.2.1 w := by rw [f1, show ((w : Int)).toNat = w by omega]; exact pl
  have sf : sp_fi T σ k (w, kd, t, i, mv, tp, bt, l) F = (if kd = 63 then (if 8 < mv + 1 then sp_x 2 (T.2.1 w) else if 1000000000 ≤ (sp_ml l).1 then sp_x 6 (T.2.1 w) else if (sp_ml l).2 = (sp_ml l).1 then (0, -1, k + 1, σ, F) else sp_x 3 (T.2.1 w)) else if 4 < mv + 1 then sp_x 2 (T.2.1 w) else if σ (12 + t) i = 0 then (0, -1, k + 1, hz_s σ (12 + t) (i : Int) (mv + 1), F) else if σ (12 + t) i = mv + 1 then (0, -1, k + 1, σ, F) else sp_x 5 (T.2.1 w)) := rfl
  have stop : sp_fi T σ k (w, kd, t, i, mv, tp, bt, l) F = sp_x 2 (T.2.1 w) → wp_stop z B 2 (B 37 j) (fun z' => Q z' B) := fun why => wv_stop (by decide) n1 hf (fun z' h c35 c36 => hQ0 z' B (by rw [c35, c36, ppl]; exact why) h (fun _ _ => rfl) (fun _ _ => rfl))
  refine ⟨by omega, fun x2 hx2 => ?_⟩
  rw [ej] at hx2 ⊢
  refine ⟨by omega, ⟨by omega, by omega⟩, fun ch => ⟨⟨by decide, by decide⟩, fun _ => ?_, fun e => absurd rfl e⟩, fun dr => ⟨⟨by decide, by decide⟩, fun e => absurd e (by decide), fun _ => ?_⟩⟩
  · refine ⟨⟨by omega, by omega⟩, ⟨by decide, by decide⟩, fun le => ⟨⟨by decide, by decide⟩, fun _ => ⟨by omega, fun x4 hx4 => ?_⟩, fun e => absurd rfl e⟩, fun mn4 => ⟨by omega, by rw [ej]; exact stop (by rw [sf, if_neg (by rw [← f2]; exact ch), if_pos (by omega)])⟩⟩
    rw [ej] at hx4
    have nkd : ¬ kd = 63 := by rw [← f2]; exact ch
    obtain ⟨-, t2, f39, i10, ilt, -⟩ : kd ≠ 63 ∧ t < 2 ∧ B 39 j = ((10 * t + i : Nat) : Int) ∧ i < 10 ∧ (i : Int) < σ 1 t ∧ True := by
      rcases f7 with ⟨q, -⟩ | ⟨q1, q2, q3, q4, q5, -⟩
      · exact absurd q nkd
      · exact ⟨q1, q2, q3, q4, q5, True.intro⟩
    have f28 := ((ms t t2).2 i ilt).2.1
    obtain ⟨p, s, p1, p2, p3, p4⟩ := hT j (by omega) ch
    obtain ⟨-, ⟨b0, b1⟩, -⟩ := (hS p p1).2 s p4
    have e39 : (B 39 j).toNat = 10 * p + s := by omega
    have ei : (20 * z 33 + x4).toNat = 20 * d + (10 * p + s) := by omega
    have cell : ∀ C, C = hz_s B 28 (20 * z 33 + x4) x2 → (∀ k, k ≠ 28 → C k = B k) ∧ (∀ i, C 28 i = if i = 20 * d + (B 39 j).toNat then B 40 j + 1 else B 28 i) := fun C hC => by
      refine ⟨fun k hk => by rw [hC, hb_s_other hk], fun i => ?_⟩
      rw [hC, lq_s_fun]
      unfold hz_u
      rw [ei, e39, hx2]
    have e39' : (B 39 j).toNat = 10 * t + i := by omega
    have base : mr_B d B σ F := ⟨mc, mn, ms, me, f8⟩
    have bd : (20 * z 33 + x4).toNat = 20 * d + (10 * t + i) := by omega
    have good : (σ (12 + t) i = 0 ∨ σ (12 + t) i = mv + 1) → wp_finish_123 z B x2 x4 Q := fun how => ⟨by omega, fun C hC => hQ2 C ch (by omega) (cell C hC).1 (cell C hC).2 (by
      have c2 := (cell C hC).2
      rw [e39', f3] at c2
      by_cases z0 : σ (12 + t) i = 0
      · exact ⟨_, by rw [sf, if_neg nkd, if_neg (by omega), if_pos z0], mr_mv base t2 i10 (cell C hC).1 c2⟩
      · have z1 : σ (12 + t) i = mv + 1 := by omega
        refine ⟨σ, by rw [sf, if_neg nkd, if_neg (by omega), if_neg z0, if_pos z1], ?_⟩
        have eC : C = B := by
          funext q r
          by_cases q28 : q = 28
          · rw [q28, c2]
            split
            · next e => rw [e, f28, z1]
            · rfl
          · rw [(cell C hC).1 q q28]
        rw [eC]
        exact base)⟩
    rw [ei]
    have same28 : B 28 (20 * d + (10 * p + s)) = σ (12 + t) i := by rw [← f28]; congr 1; omega
    refine ⟨by omega, ⟨by omega, by omega⟩, fun q => good (Or.inl (by omega)), fun q1 => ⟨by omega, ⟨by omega, by omega⟩, ⟨by omega, by omega⟩, fun q => good (Or.inr (by omega)), fun q2 => ⟨by omega, ?_⟩⟩⟩
    rw [ej]
    refine wv_stop (by decide) n1 hf (fun z' h c35 c36 => ?_)
    have e33 : z' 33 = z 33 := h.1 33 (by decide) (by decide)
    refine ⟨by rw [e33]; omega, fun C hC => ?_⟩
    rw [e33] at hC
    obtain ⟨c1, c2⟩ := cell C hC
    exact hQ0 z' C (by rw [c35, c36, ppl, sf, if_neg nkd, if_neg (by omega), if_neg (by omega), if_neg (by omega)]) h c1 (fun i hi => by rw [c2, if_neg (by omega)])
  · refine ⟨⟨by omega, by omega⟩, ⟨by decide, by decide⟩, fun le => ⟨⟨by decide, by decide⟩, fun e => absurd e (by decide), fun _ => ?_⟩, fun mn8 => ⟨by omega, by rw [ej]; exact stop (by rw [sf, if_pos (by rw [← f2]; exact dr), if_pos (by omega)])⟩⟩
    have kd63 : kd = 63 := by rw [← f2]; exact dr
    obtain ⟨lm, lh⟩ : (l.length : Int) = mv + 1 ∧ mr_h B j l := by
      rcases f7 with ⟨-, q1, q2⟩ | ⟨q, -⟩
      · exact ⟨q1, q2⟩
      · exact absurd kd63 q
    obtain ⟨m, hm⟩ : ∃ m : Nat, x2 = (m : Int) := ⟨x2.toNat, by omega⟩
    rw [hm]
    refine wv_together (l := l) (by omega) (by omega) n1 hf (fun i hi => hH j (by omega) dr i (by omega) (by omega)) (by omega) lh (fun z' h => ?_)
    rcases h with ⟨h, h1, h2⟩ | ⟨h, c36, ⟨c35, h1⟩ | ⟨c35, h1, h2⟩⟩
    · rw [h]
      exact hQ1 dr (by rw [sf, if_pos kd63, if_neg (by omega), if_neg h1, if_pos h2])
    · exact hQ0 z' B (by rw [c35, c36, ppl, sf, if_pos kd63, if_neg (by omega), if_pos h1]) h (fun _ _ => rfl) (fun _ _ => rfl)
    · exact hQ0 z' B (by rw [c35, c36, ppl, sf, if_pos kd63, if_neg (by omega), if_neg h1, if_neg h2]) h (fun _ _ => rfl) (fun _ _ => rfl)
theorem wv_goOn_193 {T : sp_T} {σ : Nat → Nat → Int} {F : List sp_F} {z : Nat → Int} {A B : Nat → Nat → Int} {d n j k : Nat} {r : Int} {Q : (Nat → Int) → (Nat → Nat → Int) → Prop} (TB : tk_B T A n) (kin : ∀ j, j < n → T.1 j = 0 ∨ T.1 j = 48 ∨ T.1 j = 1 ∨ cl_w (T.1 j)) (hM : mr_B d B σ F) (hjF : j + 1 = F.length) (hpF : ∀ f, f ∈ F → f.1 < n) (hX0 : mz_X d A B) (hd : d < 2) (hT : mc_T A n) (hR : mz_R d A B) (hz : z 33 = (d : Int)) (ho : z 45 = ((j + 1 : Nat) : Int)) (hj : j ≤ 20) (hk : z 46 = (k : Int)) (hf : z 35 = 0) (hC : go_C B d) (hG : go_G B d (j + 1) (B 13 d + 1) (-1)) (hmv : ∀ i, i < j + 1 → 0 ≤ B 40 i) (hA : ma_A (ma_t A n) k (58 :: 300 :: go_l B (j + 1)))
    (h47 : 1 ≤ z 47 ∧ z 47 ≤ z 48) (h48 : z 48 ≤ 9999) (r1 : 1 ≤ r) (ra : r ∣ z 47) (rb : r ∣ z 48)
    (hQ : ∀ z' C, go_W d A z z' C → mr_Q d n A (sp_bg T σ (k + 1) F (sp_q (B 41 j * (z 47).tdiv r) (sp_g (B 41 j * (z 47).tdiv r) (B 42 j * (z 48).tdiv r))) (sp_q (B 42 j * (z 48).tdiv r) (sp_g (B 41 j * (z 47).tdiv r) (B 42 j * (z 48).tdiv r)))) k z' C → Q z' C) : wp_goOn_193 z B (j : Int) r Q := by
  have rr := Int.le_of_dvd (by omega) rb
  obtain ⟨⟨m1, m2⟩, m3⟩ := mo_div r1 ra rb (by omega) h47.2
  obtain ⟨-, -, -, n1, n2, n3⟩ := hG.1 j (by omega)
  have ej : ((j : Int)).toNat = j := by omega
  intro z1 hz1
  have gq : ∀ q, q ≠ 46 → z1 q = z q := fun q a => by rw [hz1, lp_U_other a]
  rw [gq 47 (by decide), gq 48 (by decide), ej]
  have p1 : 1 * 1 ≤ B 41 j * (z 47).tdiv r := Int.mul_le_mul n1 m1 (by decide) (by omega)
  have p2 : B 41 j * (z 47).tdiv r ≤ B 42 j * (z 48).tdiv r := Int.mul_le_mul n2 m2 (by omega) (by omega)
  have p3 : B 42 j * (z 48).tdiv r ≤ 1000000000 * 9999 := Int.mul_le_mul (by omega) (by omega) (by omega) (by omega)
  refine ⟨by omega, by omega, ⟨by omega, by omega⟩, ⟨by omega, by omega⟩, by omega, by omega, ⟨by omega, by omega⟩, ⟨by omega, by omega⟩, ?_⟩
  refine wv_beginNode (k := k + 1) TB kin hM hjF hpF hX0 hd hT hR (by rw [gq 33 (by decide)]; exact hz) (by rw [gq 45 (by decide)]; exact ho) (by omega) (by rw [hz1, lp_U_same]; omega) (by rw [gq 35 (by decide)]; exact hf) hC hG hmv ((ma_term (by decide)).mp hA).2 (by omega) (fun z' C hW hI => hQ z' C (go_W_mono (fun q _ _ _ a _ _ => gq q a) hW) (mr_Q_mono (by omega) hI))
theorem wv_goOn_72 {T : sp_T} {σ : Nat → Nat → Int} {f : sp_F} {F : List sp_F} {z : Nat → Int} {A B : Nat → Nat → Int} {d n j k : Nat} {Q : (Nat → Int) → (Nat → Nat → Int) → Prop} (TB : tk_B T A n) (kin : ∀ j, j < n → T.1 j = 0 ∨ T.1 j = 48 ∨ T.1 j = 1 ∨ cl_w (T.1 j)) (hM : mr_B d B σ (f :: F)) (hjF : j = F.length) (hpF : ∀ g, g ∈ f :: F → g.1 < n) (hX0 : mz_X d A B) (hd : d < 2) (hT : mc_T A n) (hR : mz_R d A B) (hz : z 33 = (d : Int)) (ho : z 45 = ((j + 1 : Nat) : Int)) (hj : j ≤ 20) (hf : z 35 = 0) (hC : go_C B d) (hG : go_G B d (j + 1) (B 13 d) (-1)) (hmv : ∀ i, i < j → 0 ≤ B 40 i) (hA : ma_A (ma_t A n) k ((if B 38 j = 63 then 303 else 300) :: go_l B (j + 1)))
    (hQ : ∀ z' C, go_W d A z z' C → mr_Q d n A (sp_nx T σ k f F) k z' C → Q z' C) : wp_goOn_72 z B (j : Int) (k : Int) Q := by
  have ej : ((j : Int)).toNat = j := by omega
  obtain ⟨n1, n2, n3, n4⟩ := hG.1 j (by omega)
  obtain ⟨⟨c0, c1, c2⟩, c3, c4⟩ := hC
  intro z5 hz5
  have gq : ∀ q, q ≠ 46 → z5 q = z q := fun q a => by rw [hz5, lp_U_other a]
  have g46 : z5 46 = (k : Int) := by rw [hz5, lp_U_same]
  refine ⟨by omega, by omega, fun D hD => ?_⟩
  rw [ej] at hD ⊢
  have e : ∀ q, q ≠ 40 → D q = B q := fun q h => by rw [hD, hb_s_other h]
  have e40 : ∀ i, D 40 i = if i = j then B 40 j + 1 else B 40 i := fun i => by
    rw [hD, lq_s_fun]
    unfold hz_u
    rw [ej]
  have RD : mz_R d B D := go_R (fun q a b => e q (by omega)) (fun q a => e q (by omega))
  have R1 := mz_R_trans hR RD
  obtain ⟨hT', ht'⟩ := go_tok R1 hT
  have XD : mz_X d A D := mz_X_trans hX0 (mz_X_same (e 13 (by decide)) (e 15 (by decide)) (e 16 (by decide)) (e 27 (by decide)) (e 29 (by decide)))
  have el : go_l D (j + 1) = go_l B (j + 1) := go_l_congr (j + 1) (fun i _ => by rw [e 38 (by decide)])
  have hmvD : ∀ i, i < j + 1 → 0 ≤ D 40 i := fun i hi => by
    rw [e40]
    split
    · omega
    · exact hmv i (by omega)
  have hCD : go_C D d := by
    unfold go_C
    rw [e 13 (by decide), e 14 (by decide), e 24 (by decide)]
    exact ⟨⟨c0, c1, c2⟩, c3, c4⟩
  rw [e 38 (by decide)]
  obtain ⟨w, kd, t, i, mv, tp, bt, l⟩ := f
  have hM' := hM
  obtain ⟨mc, mn, ms, me, ⟨f1, f2, f3, f4, f5, f6, f7⟩, f8⟩ := hM'
  rw [← hjF] at f1 f2 f3 f4 f5 f7
  have f2 : B 38 j = kd := f2
  have f3 : B 40 j = mv := f3
  have f4 : B 41 j = tp := f4
  have f5 : B 42 j = bt := f5
  have f6 : sp_g tp bt = 1 := f6
  have TBD : tk_B T D n := fun j hj => by rw [R1.1 7 (by decide) (by decide), R1.1 8 (by decide) (by decide), R1.1 9 (by decide) (by decide)]; exact TB j hj
  have nx : sp_nx T σ k (w, kd, t, i, mv, tp, bt, l) F = (if kd = 63 then (if sp_fb T k = 0 ∨ sp_ft T k ≤ 0 ∨ sp_fb T k < sp_ft T k then sp_x 3 (T.2.1 k) else sp_bg T σ (sp_fe T k + 1) ((w, kd, t, i, mv + 1, tp, bt, (sp_rt T k, sp_rb T k) :: l) :: F) (sp_q (tp * sp_rt T k) (sp_g (tp * sp_rt T k) (bt * sp_rb T k))) (sp_q (bt * sp_rb T k) (sp_g (tp * sp_rt T k) (bt * sp_rb T k)))) else sp_bg T σ k ((w, kd, t, i, mv + 1, tp, bt, l) :: F) tp bt) := rfl
  -- the same node, one move on
  have upd : ∀ (C : Nat → Nat → Int) (l' : List (Int × Int)), (∀ q, q ≠ 40 → q ≠ 43 → q ≠ 44 → C q = B q) → (∀ i, C 40 i = if i = j then B 40 j + 1 else B 40 i) → (∀ i, i < 9 * j → C 43 i = B 43 i ∧ C 44 i = B 44 i) → (kd = 63 → (l'.length : Int) = mv + 1 + 1 ∧ mr_h C j l') → mr_B d C σ ((w, kd, t, i, mv + 1, tp, bt, l') :: F) := by
    intro C l' hC0 h40 h43 hl
    have ept : ∀ S n, pt C S n = pt B S n := fun S n => pt_keep (fun i _ => by rw [hC0 30 (by decide) (by decide) (by decide), hC0 31 (by decide) (by decide) (by decide)]; exact ⟨rfl, rfl⟩)
    have bs : mr_B d B σ F := ⟨mc, mn, ms, me, f8⟩
    obtain ⟨x1, x2, x3, x4, x5⟩ : mr_B d C σ F := mr_up bs (fun _ _ => rfl) rfl (by unfold mr_c at *; rw [hC0 13 (by decide) (by decide) (by decide), hC0 14 (by decide) (by decide) (by decide), hC0 15 (by decide) (by decide) (by decide), hC0 16 (by decide) (by decide) (by decide)]; exact mc) (fun q hq => hC0 q (by omega) (by omega) (by omega)) (fun q r qa qb hr => by
      by_cases q40 : q = 40
      · rw [q40, h40, if_neg (by omega)]
      · rw [hC0 q q40 (by omega) (by omega)]) (fun i hi => h43 i (by omega))
    refine ⟨x1, x2, x3, x4, ⟨?_, ?_, ?_, ?_, ?_, f6, ?_⟩, x5⟩
    · rw [← hjF, hC0 37 (by decide) (by decide) (by decide)]; exact f1
    · rw [← hjF, hC0 38 (by decide) (by decide) (by decide)]; exact f2
    · rw [← hjF, h40, if_pos rfl, f3]
    · rw [← hjF, hC0 41 (by decide) (by decide) (by decide)]; exact f4
    · rw [← hjF, hC0 42 (by decide) (by decide) (by decide)]; exact f5
    · rw [← hjF]
      rcases f7 with ⟨q1, q2, q3⟩ | ⟨q1, q2, q3, q4, q5, q6⟩
      · exact Or.inl ⟨q1, hl q1⟩
      · exact Or.inr ⟨q1, q2, by rw [hC0 39 (by decide) (by decide) (by decide)]; exact q3, q4, q5, by rw [ept]; exact q6⟩
  have hpF' : ∀ (l' : List (Int × Int)) (g : sp_F), g ∈ (w, kd, t, i, mv + 1, tp, bt, l') :: F → g.1 < n := fun l' g hg => by
    rcases List.mem_cons.mp hg with q | q
    · rw [q]
      exact hpF (w, kd, t, i, mv, tp, bt, l) (List.mem_cons_self)
    · exact hpF g (List.mem_cons_of_mem _ q)
  have lenF : ∀ l' : List (Int × Int), j + 1 = ((w, kd, t, i, mv + 1, tp, bt, l') :: F : List sp_F).length := fun l' => by rw [List.length_cons]; omega
  refine ⟨by omega, ⟨by omega, by omega⟩, fun dr => ?_, fun ch => ⟨by omega, by omega, ?_⟩⟩
  · rw [if_pos dr, ma_way] at hA
    rw [← ht', ← el] at hA
    have kd63 : kd = 63 := by rw [← f2]; exact dr
    obtain ⟨lm, lh⟩ : (l.length : Int) = mv + 1 ∧ mr_h B j l := by
      rcases f7 with ⟨-, q1, q2⟩ | ⟨q, -⟩
      · exact ⟨q1, q2⟩
      · exact absurd kd63 q
    refine wv_fraction TBD kin hT' (Or.inr rfl) g46 (by rw [gq 35 (by decide)]; exact hf) hA (fun z9 hq h46 hkk hacc h47 h48 hdr v47 v48 => ?_) (fun z9 hq h35 h35' c35 c36 why => ⟨h35', fun c => absurd c h35, fun _ => ?_⟩)
    · obtain ⟨d1, d2⟩ := hdr rfl
      rw [ht'] at hacc
      have g35 : z9 35 = 0 := by rw [hq 35 (by decide) (by decide) (by decide), gq 35 (by decide)]; exact hf
      have g33 : z9 33 = (d : Int) := by rw [hq 33 (by decide) (by decide) (by decide), gq 33 (by decide)]; exact hz
      have g45 : z9 45 = ((j + 1 : Nat) : Int) := by rw [hq 45 (by decide) (by decide) (by decide), gq 45 (by decide)]; exact ho
      rw [if_pos kd63, if_neg (by omega)] at nx
      rw [nx] at hQ
      have QQ : ∀ z' C, go_W d A z9 z' C → mr_Q d n A (sp_bg T σ (sp_fe T k + 1) ((w, kd, t, i, mv + 1, tp, bt, (sp_rt T k, sp_rb T k) :: l) :: F) (sp_q (tp * sp_rt T k) (sp_g (tp * sp_rt T k) (bt * sp_rb T k))) (sp_q (bt * sp_rb T k) (sp_g (tp * sp_rt T k) (bt * sp_rb T k)))) (sp_fe T k) z' C → Q z' C := fun z' C hW hI => hQ z' C (go_W_mono (fun q _ _ _ a b c => (hq q a b c).trans (gq q a)) hW) (mr_Q_mono (by omega) hI)
      refine ⟨by rw [g35]; exact ⟨by decide, by decide⟩, fun _ => ?_, fun c => absurd g35 c⟩
      refine wv_divisor (by omega) (by omega) (fun r er r1 ra rb => ?_)
      have ert : (z9 47).tdiv r = sp_rt T k := by unfold sp_rt sp_q; rw [← v47, ← v48, ← er, if_neg (by omega)]
      have erb : (z9 48).tdiv r = sp_rb T k := by unfold sp_rb sp_q; rw [← v47, ← v48, ← er, if_neg (by omega)]
      have rr := Int.le_of_dvd (by omega) rb
      obtain ⟨⟨m1, m2⟩, m3⟩ := mo_div r1 ra rb (by omega) d2
      have ejj : D 40 j = B 40 j + 1 := by rw [e40, if_pos rfl]
      rw [ejj]
      refine ⟨by omega, ⟨by omega, by omega⟩, fun c8 => ?_, fun c8 => ⟨by omega, by omega, ⟨by omega, by omega⟩, ⟨by omega, by omega⟩, by omega, fun E hE => ?_⟩⟩
      · refine wv_goOn_193 TB kin (upd D ((sp_rt T k, sp_rb T k) :: l) (fun q a _ _ => e q a) e40 (fun i _ => by rw [e 43 (by decide), e 44 (by decide)]; exact ⟨rfl, rfl⟩) (fun _ => ⟨by rw [List.length_cons]; omega, fun q8 => by omega, mr_h_keep lh (fun i _ _ => by rw [e 43 (by decide), e 44 (by decide)]; exact ⟨rfl, rfl⟩)⟩)) (lenF _) (hpF' _) XD hd hT R1 g33 g45 hj h46 g35 hCD ?_ hmvD hacc ⟨d1, d2⟩ h48.2 r1 ra rb (by rw [e 41 (by decide), e 42 (by decide), f4, f5, ert, erb]; exact QQ)
        rw [e 13 (by decide)]
        exact go_step (fun q a _ _ => e q a) e40 (fun i _ q _ => by rw [e 43 (by decide), e 44 (by decide)]; exact ⟨rfl, rfl⟩) (fun _ q hq1 hq2 => by rw [e 43 (by decide), e 44 (by decide)]; exact hG.2.2.2.2.1 j (by omega) dr q hq1 (by omega)) hG
      · have eE40 : E 40 = D 40 := by rw [hE, hb_s_other (by decide)]
        rw [eE40, ejj]
        refine ⟨by omega, by omega, ⟨by omega, by omega⟩, ⟨by omega, by omega⟩, by omega, fun F9 hF => ?_⟩
        have ei : (9 * (j : Int) + (B 40 j + 1)).toNat = 9 * j + (B 40 j + 1).toNat := by omega
        have f0 : ∀ q, q ≠ 43 → q ≠ 44 → F9 q = D q := fun q a b => by rw [hF, hb_s_other b, hE, hb_s_other a]
        have f43 : ∀ i, F9 43 i = if i = 9 * j + (B 40 j + 1).toNat then (z9 47).tdiv r else B 43 i := fun i => by
          rw [hF, hb_s_other (by decide), hE, lq_s_fun]
          unfold hz_u
          rw [ei, e 43 (by decide)]
        have f44 : ∀ i, F9 44 i = if i = 9 * j + (B 40 j + 1).toNat then (z9 48).tdiv r else B 44 i := fun i => by
          rw [hF, lq_s_fun]
          unfold hz_u
          rw [ei, hE, hb_s_other (by decide), e 44 (by decide)]
        have RF : mz_R d D F9 := go_R (fun q a b => f0 q (by omega) (by omega)) (fun q a => f0 q (by omega) (by omega))
        have elF : go_l F9 (j + 1) = go_l D (j + 1) := go_l_congr (j + 1) (fun i _ => by rw [f0 38 (by decide) (by decide)])
        have mvN : (B 40 j + 1).toNat = l.length := by omega
        refine wv_goOn_193 TB kin (upd F9 ((sp_rt T k, sp_rb T k) :: l) (fun q a b c => by rw [f0 q b c]; exact e q a) (fun i => by rw [f0 40 (by decide) (by decide)]; exact e40 i) (fun i hi => by rw [f43, f44, if_neg (by omega), if_neg (by omega)]; exact ⟨rfl, rfl⟩) (fun _ => ⟨by rw [List.length_cons]; omega, fun q8 => by rw [f43, f44, mvN, if_pos rfl, if_pos rfl]; exact ⟨ert, erb⟩, mr_h_keep lh (fun i hi _ => by rw [f43, f44, if_neg (by omega), if_neg (by omega)]; exact ⟨rfl, rfl⟩)⟩)) (lenF _) (hpF' _) (mz_X_trans XD (mz_X_same (f0 13 (by decide) (by decide)) (f0 15 (by decide) (by decide)) (f0 16 (by decide) (by decide)) (f0 27 (by decide) (by decide)) (f0 29 (by decide) (by decide)))) hd hT (mz_R_trans R1 RF) g33 g45 hj h46 g35 ?_ ?_ (fun i hi => by rw [f0 40 (by decide) (by decide)]; exact hmvD i hi) (by rw [elF]; exact hacc) ⟨d1, d2⟩ h48.2 r1 ra rb (by rw [f0 41 (by decide) (by decide), f0 42 (by decide) (by decide), e 41 (by decide), e 42 (by decide), f4, f5, ert, erb]; exact QQ)
        · unfold go_C at *
          rw [f0 13 (by decide) (by decide), f0 14 (by decide) (by decide), f0 24 (by decide) (by decide)]
          exact hCD
        · rw [f0 13 (by decide) (by decide), e 13 (by decide)]
          refine go_step (fun q a b c => by rw [f0 q b c]; exact e q a) (fun i => by rw [f0 40 (by decide) (by decide)]; exact e40 i) (fun i hi q hq1 => ?_) (fun _ q hq1 hq2 => ?_) hG
          · rw [f43, f44, if_neg (by omega), if_neg (by omega)]
            exact ⟨rfl, rfl⟩
          · rw [f43, f44]
            by_cases eq : q = (B 40 j + 1).toNat
            · rw [if_pos (by omega), if_pos (by omega)]
              omega
            · rw [if_neg (by omega), if_neg (by omega)]
              exact hG.2.2.2.2.1 j (by omega) dr q hq1 (by omega)
    · refine hQ z9 D ⟨fun q a b c e' f g => ?_, ?_, h35', R1⟩ ⟨XD, Or.inl ⟨h35, by rw [nx, if_pos kd63, if_pos (by omega), c35, c36]⟩⟩
      · rw [hq q a b e' f g]
        exact gq q e'
      · rw [hq 45 (by decide) (by decide) (by decide) (by decide) (by decide), gq 45 (by decide)]
        omega
  · rw [if_neg ch, ← el] at hA
    rw [e 41 (by decide), e 42 (by decide)]
    have nkd : ¬ kd = 63 := by rw [← f2]; exact ch
    rw [if_neg nkd] at nx
    rw [nx] at hQ
    rw [f4, f5]
    have e1q : ∀ x : Int, sp_q x 1 = x := fun x => by unfold sp_q; rw [if_neg (by decide), Int.tdiv_one]
    refine wv_beginNode TB kin (upd D l (fun q a _ _ => e q a) e40 (fun i _ => by rw [e 43 (by decide), e 44 (by decide)]; exact ⟨rfl, rfl⟩) (fun q => absurd q nkd)) (lenF _) (hpF' _) XD hd hT R1 (by rw [gq 33 (by decide)]; exact hz) (by rw [gq 45 (by decide)]; exact ho) (by omega) g46 (by rw [gq 35 (by decide)]; exact hf) hCD ?_ hmvD hA (by omega) (fun z' C hW hI => hQ z' C (go_W_mono (fun q _ _ _ a _ _ => gq q a) hW) (by rw [f6, e1q, e1q] at hI; exact hI))
    rw [e 13 (by decide)]
    exact go_step (fun q a _ _ => e q a) e40 (fun i _ q _ => by rw [e 43 (by decide), e 44 (by decide)]; exact ⟨rfl, rfl⟩) (fun dr => absurd dr ch) hG
theorem wv_goOn {T : sp_T} {σ : Nat → Nat → Int} {f : sp_F} {F : List sp_F} {z : Nat → Int} {A B : Nat → Nat → Int} {d n j k : Nat} {Q : (Nat → Int) → (Nat → Nat → Int) → Prop} (TB : tk_B T A n) (kin : ∀ j, j < n → T.1 j = 0 ∨ T.1 j = 48 ∨ T.1 j = 1 ∨ cl_w (T.1 j)) (hM : mr_B d B σ (f :: F)) (hjF : j = F.length) (hpF : ∀ g, g ∈ f :: F → g.1 < n) (hX0 : mz_X d A B) (hd : d < 2) (hT : mc_T A n) (hR : mz_R d A B) (hz : z 33 = (d : Int)) (ho : z 45 = ((j + 1 : Nat) : Int)) (hj : j ≤ 20) (hk : z 46 = (k : Int)) (hf : z 35 = 0) (hC : go_C B d) (hG : go_G B d (j + 1) (B 13 d) (-1)) (hmv : ∀ i, i < j → 0 ≤ B 40 i) (hA : (0 ≤ B 40 j ∧ ma_A (ma_t A n) k (go_l B (j + 1))) ∨ (B 40 j = -1 ∧ ma_A (ma_t A n) k ((if B 38 j = 63 then 303 else 300) :: go_l B (j + 1))))
    (hQ : ∀ z' C, go_W d A z z' C → mr_Q d n A (sp_go T (0, -1, k, σ, f :: F)) k z' C → k < n → Q z' C) : wp_goOn z B (j : Int) Q := by
  have ej : ((j : Int)).toNat = j := by omega
  have hn := hT.2.1
  obtain ⟨hT', ht'⟩ := go_tok hR hT
  obtain ⟨n1, n2, n3, n4⟩ := hG.1 j (by omega)
  have hC1 := hC
  obtain ⟨⟨c0, c1, c2⟩, c3, c4⟩ := hC1
  have more : ma_A (ma_t A n) k (go_l B (j + 1)) → (ma_t A n k = 44 ∧ ma_A (ma_t A n) (k + 1) ((if B 38 j = 63 then 303 else 300) :: go_l B (j + 1))) ∨ (ma_t A n k ≠ 44 ∧ ma_t A n k = 41 ∧ ma_A (ma_t A n) (k + 1) (go_l B j)) := by
    intro h
    simp only [go_l] at h ⊢
    by_cases dr : B 38 j = 63
    · simp only [if_pos dr] at h ⊢
      rw [ma_more (v := 303) (Or.inl ⟨rfl, rfl⟩)] at h
      by_cases c : ma_t A n k = 44
      · rw [if_pos c] at h
        exact Or.inl ⟨c, h⟩
      · rw [if_neg c] at h
        exact Or.inr ⟨c, (ma_term (by decide)).mp h⟩
    · simp only [if_neg dr] at h ⊢
      rw [ma_more (v := 300) (Or.inr ⟨rfl, rfl⟩)] at h
      by_cases c : ma_t A n k = 44
      · rw [if_pos c] at h
        exact Or.inl ⟨c, h⟩
      · rw [if_neg c] at h
        exact Or.inr ⟨c, (ma_term (by decide)).mp h⟩
  have htk : ma_t A n k ≠ 0 ∧ ma_t A n k ≠ 2 := by
    rcases hA with ⟨-, h⟩ | ⟨-, h⟩
    · rcases more h with ⟨a, -⟩ | ⟨-, a, -⟩ <;> rw [a] <;> exact ⟨by decide, by decide⟩
    · by_cases dr : B 38 j = 63
      · rw [if_pos dr, ma_way, ma_frac] at h
        by_cases c : ma_t A n k = 45
        · rw [c]
          exact ⟨by decide, by decide⟩
        · rw [if_neg c] at h
          rw [((ma_term (by decide)).mp h).1]
          exact ⟨by decide, by decide⟩
      · rw [if_neg dr] at h
        rcases ma_node.mp h with ⟨a, -⟩ | ⟨a, -⟩ | ⟨a | a, -⟩ <;> rw [a] <;> exact ⟨by decide, by decide⟩
  obtain ⟨hkn, hk7⟩ := mo_tok hT htk.1 htk.2
  have ek : (z 46).toNat = k := by omega
  have e7 : B 7 = A 7 := hR.1 7 (by decide) (by decide)
  have mvE : B 40 j = f.2.2.2.2.1 := by rw [hjF]; exact hM.2.2.2.2.1.2.2.1
  have kc : ma_t A n k = 44 ↔ T.1 k = 44 := by rw [hk7]; exact tk_c TB kin (by omega) (by unfold cl_w; omega)
  have stepN : B 40 j < 0 → sp_go T (0, -1, k, σ, f :: F) = sp_nx T σ k f F := fun q => by
    show (if (0 : Int) = 0 then (if 0 ≤ f.2.2.2.2.1 then _ else sp_nx T σ k f F) else _) = _
    rw [if_pos rfl, if_neg (by omega)]
  have stepM : ¬ B 40 j < 0 → ma_t A n k = 44 → sp_go T (0, -1, k, σ, f :: F) = sp_nx T σ (k + 1) f F := fun q q2 => by
    show (if (0 : Int) = 0 then (if 0 ≤ f.2.2.2.2.1 then (if T.1 k = 44 then sp_nx T σ (k + 1) f F else _) else _) else _) = _
    rw [if_pos rfl, if_pos (by omega), if_pos (kc.mp q2)]
  have stepF : ¬ B 40 j < 0 → ¬ ma_t A n k = 44 → sp_go T (0, -1, k, σ, f :: F) = sp_fi T σ k f F := fun q q2 => by
    show (if (0 : Int) = 0 then (if 0 ≤ f.2.2.2.2.1 then (if T.1 k = 44 then _ else sp_fi T σ k f F) else _) else _) = _
    rw [if_pos rfl, if_pos (by omega), if_neg (fun q3 => q2 (kc.mpr q3))]
  have QQ : ∀ (k1 : Nat) (X : sp_S), k ≤ k1 → sp_go T (0, -1, k, σ, f :: F) = X → ∀ z' C, go_W d A z z' C → mr_Q d n A X k1 z' C → Q z' C := fun k1 X hk1 eX z' C hW hI => hQ z' C hW (by rw [eX]; exact mr_Q_mono hk1 hI) (by omega)
  have r40 : hz_rI (B 40 j) := ⟨by omega, by omega⟩
  refine ⟨by omega, ?_⟩
  rw [ej]
  refine ⟨r40, fun neg => ⟨by omega, ?_⟩, fun pos => ⟨by omega, ?_⟩⟩
  · rw [ej, hk]
    rcases hA with ⟨h, -⟩ | ⟨-, hA⟩
    · omega
    · exact ⟨r40, fun _ => wv_goOn_72 TB kin hM hjF hpF hX0 hd hT hR hz ho hj hf hC hG hmv hA (QQ k _ (Nat.le_refl k) (stepN (by omega))), fun c => absurd neg c⟩
  · rcases hA with ⟨-, hA⟩ | ⟨h, -⟩
    · rw [ek, e7, ← hk7]
      have r7 : hz_rI (ma_t A n k) := by
        rcases more hA with ⟨a, -⟩ | ⟨-, a, -⟩ <;> rw [a] <;> exact ⟨by decide, by decide⟩
      refine ⟨r7, fun c44 => ⟨by omega, ?_⟩, fun n44 => ?_⟩
      · rw [ej]
        have e1 : z 46 + 1 = ((k + 1 : Nat) : Int) := by omega
        rw [e1]
        rcases more hA with ⟨-, h⟩ | ⟨h, -⟩
        · exact ⟨r40, fun c => absurd c pos, fun _ => wv_goOn_72 TB kin hM hjF hpF hX0 hd hT hR hz ho hj hf hC hG hmv h (QQ (k + 1) _ (by omega) (stepM (by omega) c44))⟩
        · exact absurd c44 h
      · have acc : ma_A (ma_t A n) (k + 1) (go_l B j) := by
          rcases more hA with ⟨h, -⟩ | ⟨-, -, h⟩
          · exact absurd h n44
          · exact h
        have R28 : ∀ C, (∀ k, k ≠ 28 → C k = B k) → (∀ i, (i < 20 * d ∨ 20 * d + 20 ≤ i) → C 28 i = B 28 i) → mz_R d A C := fun C h1 h2 =>
          mz_R_trans hR ⟨fun q a b => h1 q (by omega), fun i _ => by rw [h1 14 (by decide), h1 25 (by decide)]; exact ⟨rfl, rfl⟩, fun i _ _ => by rw [h1 26 (by decide)], h2, fun i _ => by rw [h1 19 (by decide), h1 20 (by decide), h1 21 (by decide)]; exact ⟨rfl, rfl, rfl⟩, fun i _ => by rw [h1 22 (by decide), h1 23 (by decide)]; exact ⟨rfl, rfl⟩⟩
        have X28 : ∀ C : Nat → Nat → Int, (∀ k, k ≠ 28 → C k = B k) → mz_X d A C := fun C h1 => mz_X_trans hX0 (mz_X_same (h1 13 (by decide)) (h1 15 (by decide)) (h1 16 (by decide)) (h1 27 (by decide)) (h1 29 (by decide)))
        have close : ∀ C z24 z25, z24 = lp_U z 46 (z 46 + 1) → z25 = lp_U z24 45 (z24 45 - 1) → (∀ k, k ≠ 28 → C k = B k) → (∀ i, (i < 20 * d ∨ 20 * d + 20 ≤ i) → C 28 i = B 28 i) → go_G C d j (B 13 d) (-1) → (∃ σ', sp_fi T σ k f F = (0, -1, k + 1, σ', F) ∧ mr_B d C σ' F) → Q z25 C := by
          intro C z24 z25 h24 h25 hC0 h28 hG1 hfin
          obtain ⟨σ', hf1, hf2⟩ := hfin
          have q35 : z25 35 = 0 := by rw [h25, lp_U_other (by decide), h24, lp_U_other (by decide)]; exact hf
          have q45 : z25 45 = (j : Int) := by
            rw [h25, lp_U_same, h24, lp_U_other (by decide)]
            omega
          have q46 : z25 46 = ((k + 1 : Nat) : Int) := by
            rw [h25, lp_U_other (by decide), h24, lp_U_same]
            omega
          have el : go_l C j = go_l B j := go_l_congr j (fun i _ => by rw [hC0 38 (by decide)])
          refine hQ z25 C ⟨fun q a b c e f g => ?_, by omega, by rw [q35]; exact ⟨by decide, by decide⟩, R28 C hC0 h28⟩ ⟨X28 C hC0, Or.inr ⟨q35, ⟨j, k + 1, q45, q46, by omega, by omega, ?_, by rw [hC0 13 (by decide)]; exact hG1, fun i hi => by rw [hC0 40 (by decide)]; exact hmv i (by omega), ?_⟩, k + 1, σ', F, by rw [stepF (by omega) n44]; exact hf1, hf2, q46, by rw [q45, hjF], fun g hg => hpF g (List.mem_cons_of_mem _ hg)⟩⟩ (by omega)
          · rw [h25, lp_U_other c, h24, lp_U_other e]
          · unfold go_C at *
            rw [hC0 13 (by decide), hC0 14 (by decide), hC0 24 (by decide)]
            exact hC
          · rw [← el] at acc
            cases j with
            | zero => exact Or.inl ⟨rfl, acc⟩
            | succ i => exact Or.inr ⟨i, rfl, Or.inl ⟨by rw [hC0 40 (by decide)]; exact hmv i (by omega), acc⟩⟩
        refine wv_finish (T := T) (k := k) (by rw [hR.1 8 (by decide) (by decide)]; exact (TB f.1 (hpF f List.mem_cons_self)).2.1) hM hjF hd hz hj hf hG c2 (by omega) (fun z' C hx9 h hC0 h28 z24 hz24 z25 hz25 => ?_) (fun dr hx9 z24 hz24 z25 hz25 => ?_) (fun C nd h4 hC0 h28 hx9 z24 hz24 z25 hz25 => ?_)
        · have q35 : z25 35 = z' 35 := by rw [hz25, lp_U_other (by decide), hz24, lp_U_other (by decide)]
          have q36 : z25 36 = z' 36 := by rw [hz25, lp_U_other (by decide), hz24, lp_U_other (by decide)]
          refine hQ z25 C ⟨fun q a b c e f g => ?_, ?_, by rw [q35]; exact h.2.2, R28 C hC0 h28⟩ ⟨X28 C hC0, Or.inl ⟨by rw [q35]; exact h.2.1, by rw [stepF (by omega) n44, q35, q36]; exact hx9⟩⟩ (by omega)
          · rw [hz25, lp_U_other c, hz24, lp_U_other e]
            exact h.1 q a b
          · rw [hz25, lp_U_same, hz24, lp_U_other (by decide), h.1 45 (by decide) (by decide)]
            omega
        · exact close B z24 z25 hz24 hz25 (fun _ _ => rfl) (fun _ _ => rfl) (go_close (fun _ _ => rfl) (Or.inl ⟨dr, rfl⟩) hG) ⟨σ, hx9, hM.1, hM.2.1, hM.2.2.1, hM.2.2.2.1, hM.2.2.2.2.2⟩
        · obtain ⟨p, s, p1, p2, p3, p4⟩ := hG.2.2.1 j (by omega) nd
          exact close C z24 z25 hz24 hz25 hC0 (fun i hi => by rw [h28, if_neg (by omega)]) (go_close hC0 (Or.inr ⟨nd, by omega, h4, h28⟩) hG) hx9
    · omega
