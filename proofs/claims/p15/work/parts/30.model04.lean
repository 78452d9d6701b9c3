-- 59.goOn
theorem wq_finish {z : Nat → Int} {B : Nat → Nat → Int} {d j : Nat} {c : Int} {Q : (Nat → Int) → (Nat → Nat → Int) → Prop} (hd : d < 2) (hz : z 33 = (d : Int)) (hj : j ≤ 20) (hf : z 35 = 0) (hG : go_G B d (j + 1) c (-1)) (hc : c ≤ 400) (h0 : 0 ≤ B 40 j)
    (hQ0 : ∀ z' C, mo_stop z z' → (∀ k, k ≠ 28 → C k = B k) → (∀ i, (i < 20 * d ∨ 20 * d + 20 ≤ i) → C 28 i = B 28 i) → Q z' C) (hQ1 : B 38 j = 63 → Q z B)
    (hQ2 : ∀ C, B 38 j ≠ 63 → B 40 j + 1 ≤ 4 → (∀ k, k ≠ 28 → C k = B k) → (∀ i, C 28 i = if i = 20 * d + (B 39 j).toNat then B 40 j + 1 else B 28 i) → Q z C) : wp_finish z B (j : Int) Q := by
  obtain ⟨hN, hS, hT, hP, hH, hZ, hE⟩ := hG
  obtain ⟨n1, n2, n3, n4⟩ := hN j (by omega)
  have hf' : hz_rI (z 35) := by rw [hf]; exact ⟨by decide, by decide⟩
  have ej : ((j : Int)).toNat = j := by omega
  have stop : wp_stop z B 2 (B 37 j) (fun z' => Q z' B) := wq_stop (by decide) n1 hf' (fun z' h => hQ0 z' B h (fun _ _ => rfl) (fun _ _ => rfl))
  refine ⟨by omega, fun x2 hx2 => ?_⟩
  rw [ej] at hx2 ⊢
  refine ⟨by omega, ⟨by omega, by omega⟩, fun ch => ⟨⟨by decide, by decide⟩, fun _ => ?_, fun e => absurd rfl e⟩, fun dr => ⟨⟨by decide, by decide⟩, fun e => absurd e (by decide), fun _ => ?_⟩⟩
  · refine ⟨⟨by omega, by omega⟩, ⟨by decide, by decide⟩, fun le => ⟨⟨by decide, by decide⟩, fun _ => ⟨by omega, fun x4 hx4 => ?_⟩, fun e => absurd rfl e⟩, fun _ => ⟨by omega, by rw [ej]; exact stop⟩⟩
    rw [ej] at hx4
    obtain ⟨p, s, p1, p2, p3, p4⟩ := hT j (by omega) ch
    obtain ⟨-, ⟨b0, b1⟩, -⟩ := (hS p p1).2 s p4
    have e39 : (B 39 j).toNat = 10 * p + s := by omega
    have ei : (20 * z 33 + x4).toNat = 20 * d + (10 * p + s) := by omega
    have cell : ∀ C, C = hz_s B 28 (20 * z 33 + x4) x2 → (∀ k, k ≠ 28 → C k = B k) ∧ (∀ i, C 28 i = if i = 20 * d + (B 39 j).toNat then B 40 j + 1 else B 28 i) := fun C hC => by
      refine ⟨fun k hk => by rw [hC, hb_s_other hk], fun i => ?_⟩
      rw [hC, lq_s_fun]
      unfold hz_u
      rw [ei, e39, hx2]
    have good : wp_finish_123 z B x2 x4 Q := ⟨by omega, fun C hC => hQ2 C ch (by omega) (cell C hC).1 (cell C hC).2⟩
    rw [ei]
    refine ⟨by omega, ⟨by omega, by omega⟩, fun _ => good, fun _ => ⟨by omega, ⟨by omega, by omega⟩, ⟨by omega, by omega⟩, fun _ => good, fun _ => ⟨by omega, ?_⟩⟩⟩
    rw [ej]
    refine wq_stop (by decide) n1 hf' (fun z' h => ?_)
    have e33 : z' 33 = z 33 := h.1 33 (by decide) (by decide)
    refine ⟨by rw [e33]; omega, fun C hC => ?_⟩
    rw [e33] at hC
    obtain ⟨c1, c2⟩ := cell C hC
    exact hQ0 z' C h c1 (fun i hi => by rw [c2, if_neg (by omega)])
  · refine ⟨⟨by omega, by omega⟩, ⟨by decide, by decide⟩, fun le => ⟨⟨by decide, by decide⟩, fun e => absurd e (by decide), fun _ => ?_⟩, fun _ => ⟨by omega, by rw [ej]; exact stop⟩⟩
    obtain ⟨m, hm⟩ : ∃ m : Nat, x2 = (m : Int) := ⟨x2.toNat, by omega⟩
    rw [hm]
    refine wq_together (by omega) (by omega) n1 hf (fun i hi => hH j (by omega) dr i (by omega) (by omega)) (fun z' h => ?_)
    rcases h with h | h
    · rw [h]
      exact hQ1 dr
    · exact hQ0 z' B h (fun _ _ => rfl) (fun _ _ => rfl)
/-- the last open node is closed -/
theorem go_close {B C : Nat → Nat → Int} {d j : Nat} {c : Int} (hC : ∀ k, k ≠ 28 → C k = B k) (h : (B 38 j = 63 ∧ C 28 = B 28) ∨ (B 38 j ≠ 63 ∧ 0 ≤ B 40 j ∧ B 40 j + 1 ≤ 4 ∧ ∀ i, C 28 i = if i = 20 * d + (B 39 j).toNat then B 40 j + 1 else B 28 i)) (hG : go_G B d (j + 1) c (-1)) : go_G C d j c (-1) := by
  obtain ⟨hN, hS, hT, hP, hH, hZ, hE⟩ := hG
  have e : ∀ k, k ≠ 28 → C k = B k := hC
  have ec : ∀ p j, go_c C p j = go_c B p j := fun p j => go_c_congr p j (fun i _ => by rw [e 38 (by decide), e 39 (by decide)]; exact ⟨rfl, rfl⟩)
  refine ⟨fun i hi => ?_, fun p hp => ?_, fun i hi nd => ?_, fun i hi nd => ?_, fun i hi => ?_, fun p hp s hs h0 => ?_, fun e1 he1 => ?_⟩
  · rw [e 37 (by decide), e 38 (by decide), e 40 (by decide), e 41 (by decide), e 42 (by decide)]
    exact hN i (by omega)
  · obtain ⟨a, b⟩ := hS p hp
    rw [e 26 (by decide), e 27 (by decide), e 29 (by decide), e 30 (by decide), e 31 (by decide)]
    refine ⟨a, fun s hs => ?_⟩
    obtain ⟨b1, b2, b3⟩ := b s hs
    refine ⟨b1, ?_, b3⟩
    rcases h with ⟨-, h⟩ | ⟨-, h1, h2, h3⟩
    · rw [h]
      exact b2
    · rw [h3]
      split <;> omega
  · rw [e 38 (by decide)] at nd
    rw [e 39 (by decide), e 26 (by decide)]
    exact hT i (by omega) nd
  · rw [e 38 (by decide)] at nd
    rw [e 39 (by decide), e 29 (by decide), ec]
    exact hP i (by omega) nd
  · rw [e 38 (by decide), e 40 (by decide), e 43 (by decide), e 44 (by decide)]
    exact hH i (by omega)
  · rw [e 26 (by decide)] at hs
    rw [e 38 (by decide), e 39 (by decide)]
    have k0 : B 28 (20 * d + (10 * p + s)) = 0 ∧ (B 38 j ≠ 63 → B 39 j ≠ ((10 * p + s : Nat) : Int)) := by
      rcases h with ⟨h1, h2⟩ | ⟨h1, h2, h3, h4⟩
      · rw [h2] at h0
        exact ⟨h0, fun c => absurd h1 c⟩
      · rw [h4] at h0
        split at h0
        · omega
        · exact ⟨h0, fun _ => by omega⟩
    rcases hZ p hp s hs k0.1 with h1 | ⟨i, i1, i2, i3⟩
    · exact Or.inl h1
    · by_cases ei : i = j
      · rw [ei] at i2 i3
        exact absurd i3 (k0.2 i2)
      · exact Or.inr ⟨i, by omega, i2, i3⟩
  · rw [e 14 (by decide)] at he1
    rw [e 17 (by decide), e 18 (by decide), e 20 (by decide), e 21 (by decide), e 22 (by decide), e 23 (by decide), e 24 (by decide), e 38 (by decide), e 40 (by decide)]
    obtain ⟨a1, a2, a3, a4, a5⟩ := hE e1 he1
    refine ⟨a1, a2, a3, fun w w0 w1 => ?_, a5⟩
    obtain ⟨b1, b2, b3⟩ := a4 w w0 w1
    refine ⟨b1, b2, ?_⟩
    rcases b3 with b3 | ⟨i, i1, i2, i3⟩
    · exact Or.inl b3
    · by_cases ei : i = j
      · rw [ei] at i2 i3
        rcases h with ⟨h1, -⟩ | ⟨-, -, h1, -⟩
        · exact absurd h1 i2
        · omega
      · exact Or.inr ⟨i, by omega, i2, i3⟩
/-- one move more of the last open node -/
theorem go_step {B C : Nat → Nat → Int} {d j : Nat} {c : Int} (hC : ∀ k, k ≠ 40 → k ≠ 43 → k ≠ 44 → C k = B k) (h40 : ∀ i, C 40 i = if i = j then B 40 j + 1 else B 40 i) (hoth : ∀ i, i < j → ∀ q, q < 8 → C 43 (9 * i + q) = B 43 (9 * i + q) ∧ C 44 (9 * i + q) = B 44 (9 * i + q))
    (hnew : B 38 j = 63 → ∀ q : Nat, q < 8 → (q : Int) ≤ B 40 j + 1 → (1 ≤ C 44 (9 * j + q) ∧ C 44 (9 * j + q) ≤ 9999) ∧ (0 ≤ C 43 (9 * j + q) ∧ C 43 (9 * j + q) ≤ 9999)) (hG : go_G B d (j + 1) c (-1)) : go_G C d (j + 1) (c + 1) (-1) := by
  obtain ⟨hN, hS, hT, hP, hH, hZ, hE⟩ := hG
  have e : ∀ k, (k < 40 ∨ k = 41 ∨ k = 42) → C k = B k := fun k h => hC k (by omega) (by omega) (by omega)
  have ec : ∀ p j, go_c C p j = go_c B p j := fun p j => go_c_congr p j (fun i _ => by rw [e 38 (by decide), e 39 (by decide)]; exact ⟨rfl, rfl⟩)
  refine ⟨fun i hi => ?_, ?_, ?_, ?_, fun i hi dr q hq hq2 => ?_, ?_, fun e1 he1 => ?_⟩
  · obtain ⟨n1, n2, n3, n4⟩ := hN i hi
    rw [e 37 (by decide), e 38 (by decide), e 41 (by decide), e 42 (by decide), h40]
    refine ⟨n1, n2, ?_, n4⟩
    split
    · next ei =>
      rw [ei] at n3
      omega
    · omega
  · unfold go_S at *
    rw [e 26 (by decide), e 27 (by decide), e 28 (by decide), e 29 (by decide), e 30 (by decide), e 31 (by decide)]
    exact hS
  · unfold go_T at *
    rw [e 26 (by decide), e 38 (by decide), e 39 (by decide)]
    exact hT
  · unfold go_P at *
    simp only [ec]
    rw [e 29 (by decide), e 38 (by decide), e 39 (by decide)]
    exact hP
  · rw [e 38 (by decide)] at dr
    rw [h40] at hq2
    by_cases ei : i = j
    · rw [if_pos ei] at hq2
      rw [ei] at dr ⊢
      exact hnew dr q hq hq2
    · rw [if_neg ei] at hq2
      obtain ⟨o1, o2⟩ := hoth i (by omega) q hq
      rw [o1, o2]
      exact hH i hi dr q hq hq2
  · unfold go_Z at *
    rw [e 26 (by decide), e 28 (by decide), e 38 (by decide), e 39 (by decide)]
    exact hZ
  · rw [e 14 (by decide)] at he1
    rw [e 17 (by decide), e 18 (by decide), e 20 (by decide), e 21 (by decide), e 22 (by decide), e 23 (by decide), e 24 (by decide), e 38 (by decide)]
    obtain ⟨a1, a2, a3, a4, a5⟩ := hE e1 he1
    refine ⟨a1, a2, a3, fun w w0 w1 => ?_, a5⟩
    obtain ⟨b1, b2, b3⟩ := a4 w w0 w1
    refine ⟨b1, b2, ?_⟩
    rcases b3 with b3 | ⟨i, i1, i2, i3⟩
    · exact Or.inl b3
    · refine Or.inr ⟨i, i1, i2, ?_⟩
      rw [h40]
      split
      · next ei =>
        rw [ei] at i3
        omega
      · exact i3
theorem go_I_mono {t : Nat → Int} {d k k' : Nat} {z : Nat → Int} {C : Nat → Nat → Int} (h : k ≤ k') (hI : go_I t d z C k') : go_I t d z C k := by
  obtain ⟨o, q, a, b, c, r⟩ := hI
  exact ⟨o, q, a, b, by omega, r⟩
theorem go_W_mono {d : Nat} {A C : Nat → Nat → Int} {z z1 z' : Nat → Int} (h : ∀ q, q ≠ 35 → q ≠ 36 → q ≠ 45 → q ≠ 46 → q ≠ 47 → q ≠ 48 → z1 q = z q) (hW : go_W d A z1 z' C) : go_W d A z z' C :=
  ⟨fun q a b c e f g => (hW.1 q a b c e f g).trans (h q a b c e f g), hW.2⟩
theorem wq_goOn_193 {z : Nat → Int} {A B : Nat → Nat → Int} {d n j k : Nat} {r : Int} {Q : (Nat → Int) → (Nat → Nat → Int) → Prop} (hd : d < 2) (hT : mc_T A n) (hR : mz_R d A B) (hz : z 33 = (d : Int)) (ho : z 45 = ((j + 1 : Nat) : Int)) (hj : j ≤ 20) (hk : z 46 = (k : Int)) (hf : z 35 = 0) (hC : go_C B d) (hG : go_G B d (j + 1) (B 13 d + 1) (-1)) (hmv : ∀ i, i < j + 1 → 0 ≤ B 40 i) (hA : ma_A (ma_t A n) k (58 :: 300 :: go_l B (j + 1)))
    (h47 : 1 ≤ z 47 ∧ z 47 ≤ z 48) (h48 : z 48 ≤ 9999) (r1 : 1 ≤ r) (ra : r ∣ z 47) (rb : r ∣ z 48)
    (hQ : ∀ z' C, go_W d A z z' C → (z' 35 ≠ 0 ∨ (z' 35 = 0 ∧ go_I (ma_t A n) d z' C k)) → Q z' C) : wp_goOn_193 z B (j : Int) r Q := by
  have rr := Int.le_of_dvd (by omega) rb
  obtain ⟨⟨m1, m2⟩, m3⟩ := mo_div r1 ra rb (by omega) h47.2
  obtain ⟨-, -, -, n1, n2, n3⟩ := hG.1 j (by omega)
  have ej : ((j : Int)).toNat = j := by omega
  intro z1 hz1
  have gq : ∀ q, q ≠ 46 → z1 q = z q := fun q a => by rw [hz1, lp_U_other a]
  rw [gq 47 (by decide), gq 48 (by decide), ej]
  have p1 : 1 * 1 ≤ B 41 j * (z 47).tdiv r := Int.mul_le_mul n1 m1 (by decide) (by omega)
  have p2 : B 41 j * (z 47).tdiv r ≤ B 42 j * (z 48).tdiv r := Int.mul_le_mul n2 m2 (by omega) (by omega)
  have p3 : B 42 j * (z 48).tdiv r ≤ 1000000000 * 9999 := Int.mul_le_mul (by omega) (by omega) (by omega) (by omega)
  refine ⟨by omega, by omega, ⟨by omega, by omega⟩, ⟨by omega, by omega⟩, by omega, by omega, ⟨by omega, by omega⟩, ⟨by omega, by omega⟩, ?_⟩
  refine wq_beginNode (k := k + 1) hd hT hR (by rw [gq 33 (by decide)]; exact hz) (by rw [gq 45 (by decide)]; exact ho) (by omega) (by rw [hz1, lp_U_same]; omega) (by rw [gq 35 (by decide)]; exact hf) hC hG hmv ((ma_term (by decide)).mp hA).2 (by omega) (fun z' C hW hI => hQ z' C (go_W_mono (fun q _ _ _ a _ _ => gq q a) hW) ?_)
  rcases hI with h | ⟨h1, h2⟩
  · exact Or.inl h
  · exact Or.inr ⟨h1, go_I_mono (by omega) h2⟩
theorem wq_goOn_72 {z : Nat → Int} {A B : Nat → Nat → Int} {d n j k : Nat} {Q : (Nat → Int) → (Nat → Nat → Int) → Prop} (hd : d < 2) (hT : mc_T A n) (hR : mz_R d A B) (hz : z 33 = (d : Int)) (ho : z 45 = ((j + 1 : Nat) : Int)) (hj : j ≤ 20) (hf : z 35 = 0) (hC : go_C B d) (hG : go_G B d (j + 1) (B 13 d) (-1)) (hmv : ∀ i, i < j → 0 ≤ B 40 i) (hA : ma_A (ma_t A n) k ((if B 38 j = 63 then 303 else 300) :: go_l B (j + 1)))
    (hQ : ∀ z' C, go_W d A z z' C → (z' 35 ≠ 0 ∨ (z' 35 = 0 ∧ go_I (ma_t A n) d z' C k)) → Q z' C) : wp_goOn_72 z B (j : Int) (k : Int) Q := by
  have ej : ((j : Int)).toNat = j := by omega
  obtain ⟨n1, n2, n3, n4⟩ := hG.1 j (by omega)
  obtain ⟨⟨c0, c1, c2⟩, c3, c4⟩ := hC
  intro z5 hz5
  have gq : ∀ q, q ≠ 46 → z5 q = z q := fun q a => by rw [hz5, lp_U_other a]
  have g46 : z5 46 = (k : Int) := by rw [hz5, lp_U_same]
  refine ⟨by omega, by omega, fun D hD => ?_⟩
  rw [ej] at hD ⊢
  have e : ∀ q, q ≠ 40 → D q = B q := fun q h => by rw [hD, hb_s_other h]
  have e40 : ∀ i, D 40 i = if i = j then B 40 j + 1 else B 40 i := fun i => by
    rw [hD, lq_s_fun]
    unfold hz_u
    rw [ej]
  have RD : mz_R d B D := go_R (fun q a b => e q (by omega)) (fun q a => e q (by omega))
  have R1 := mz_R_trans hR RD
  obtain ⟨hT', ht'⟩ := go_tok R1 hT
  have el : go_l D (j + 1) = go_l B (j + 1) := go_l_congr (j + 1) (fun i _ => by rw [e 38 (by decide)])
  have hmvD : ∀ i, i < j + 1 → 0 ≤ D 40 i := fun i hi => by
    rw [e40]
    split
    · omega
    · exact hmv i (by omega)
  have hCD : go_C D d := by
    unfold go_C
    rw [e 13 (by decide), e 14 (by decide), e 24 (by decide)]
    exact ⟨⟨c0, c1, c2⟩, c3, c4⟩
  rw [e 38 (by decide)]
  refine ⟨by omega, ⟨by omega, by omega⟩, fun dr => ?_, fun ch => ⟨by omega, by omega, ?_⟩⟩
  · rw [if_pos dr, ma_way] at hA
    rw [← ht', ← el] at hA
    refine wq_fraction hT' (Or.inr rfl) g46 (by rw [gq 35 (by decide)]; exact hf) hA (fun z9 k9 hq h46 hkk hacc h47 h48 hdr => ?_) (fun z9 hq h35 h35' => ⟨h35', fun c => absurd c h35, fun _ => ?_⟩)
    · obtain ⟨d1, d2⟩ := hdr rfl
      rw [ht'] at hacc
      have g35 : z9 35 = 0 := by rw [hq 35 (by decide) (by decide) (by decide), gq 35 (by decide)]; exact hf
      have g33 : z9 33 = (d : Int) := by rw [hq 33 (by decide) (by decide) (by decide), gq 33 (by decide)]; exact hz
      have g45 : z9 45 = ((j + 1 : Nat) : Int) := by rw [hq 45 (by decide) (by decide) (by decide), gq 45 (by decide)]; exact ho
      have QQ : ∀ z' C, go_W d A z9 z' C → (z' 35 ≠ 0 ∨ (z' 35 = 0 ∧ go_I (ma_t A n) d z' C k9)) → Q z' C := fun z' C hW hI => by
        refine hQ z' C (go_W_mono (fun q _ _ _ a b c => (hq q a b c).trans (gq q a)) hW) ?_
        rcases hI with h | ⟨h1, h2⟩
        · exact Or.inl h
        · exact Or.inr ⟨h1, go_I_mono (by omega) h2⟩
      refine ⟨by rw [g35]; exact ⟨by decide, by decide⟩, fun _ => ?_, fun c => absurd g35 c⟩
      refine wq_divisor (by omega) (by omega) (fun r r1 ra rb => ?_)
      have rr := Int.le_of_dvd (by omega) rb
      obtain ⟨⟨m1, m2⟩, m3⟩ := mo_div r1 ra rb (by omega) d2
      have ejj : D 40 j = B 40 j + 1 := by rw [e40, if_pos rfl]
      rw [ejj]
      refine ⟨by omega, ⟨by omega, by omega⟩, fun c8 => ?_, fun c8 => ⟨by omega, by omega, ⟨by omega, by omega⟩, ⟨by omega, by omega⟩, by omega, fun E hE => ?_⟩⟩
      · refine wq_goOn_193 hd hT R1 g33 g45 hj h46 g35 hCD ?_ hmvD hacc ⟨d1, d2⟩ h48.2 r1 ra rb QQ
        rw [e 13 (by decide)]
        exact go_step (fun q a _ _ => e q a) e40 (fun i _ q _ => by rw [e 43 (by decide), e 44 (by decide)]; exact ⟨rfl, rfl⟩) (fun _ q hq1 hq2 => by rw [e 43 (by decide), e 44 (by decide)]; exact hG.2.2.2.2.1 j (by omega) dr q hq1 (by omega)) hG
      · have eE40 : E 40 = D 40 := by rw [hE, hb_s_other (by decide)]
        rw [eE40, ejj]
        refine ⟨by omega, by omega, ⟨by omega, by omega⟩, ⟨by omega, by omega⟩, by omega, fun F hF => ?_⟩
        have ei : (9 * (j : Int) + (B 40 j + 1)).toNat = 9 * j + (B 40 j + 1).toNat := by omega
        have f0 : ∀ q, q ≠ 43 → q ≠ 44 → F q = D q := fun q a b => by rw [hF, hb_s_other b, hE, hb_s_other a]
        have f43 : ∀ i, F 43 i = if i = 9 * j + (B 40 j + 1).toNat then (z9 47).tdiv r else B 43 i := fun i => by
          rw [hF, hb_s_other (by decide), hE, lq_s_fun]
          unfold hz_u
          rw [ei, e 43 (by decide)]
        have f44 : ∀ i, F 44 i = if i = 9 * j + (B 40 j + 1).toNat then (z9 48).tdiv r else B 44 i := fun i => by
          rw [hF, lq_s_fun]
          unfold hz_u
          rw [ei, hE, hb_s_other (by decide), e 44 (by decide)]
        have RF : mz_R d D F := go_R (fun q a b => f0 q (by omega) (by omega)) (fun q a => f0 q (by omega) (by omega))
        have elF : go_l F (j + 1) = go_l D (j + 1) := go_l_congr (j + 1) (fun i _ => by rw [f0 38 (by decide) (by decide)])
        refine wq_goOn_193 hd hT (mz_R_trans R1 RF) g33 g45 hj h46 g35 ?_ ?_ (fun i hi => by rw [f0 40 (by decide) (by decide)]; exact hmvD i hi) (by rw [elF]; exact hacc) ⟨d1, d2⟩ h48.2 r1 ra rb QQ
        · unfold go_C at *
          rw [f0 13 (by decide) (by decide), f0 14 (by decide) (by decide), f0 24 (by decide) (by decide)]
          exact hCD
        · rw [f0 13 (by decide) (by decide), e 13 (by decide)]
          refine go_step (fun q a b c => by rw [f0 q b c]; exact e q a) (fun i => by rw [f0 40 (by decide) (by decide)]; exact e40 i) (fun i hi q hq1 => ?_) (fun _ q hq1 hq2 => ?_) hG
          · rw [f43, f44, if_neg (by omega), if_neg (by omega)]
            exact ⟨rfl, rfl⟩
          · rw [f43, f44]
            by_cases eq : q = (B 40 j + 1).toNat
            · rw [if_pos (by omega), if_pos (by omega)]
              omega
            · rw [if_neg (by omega), if_neg (by omega)]
              exact hG.2.2.2.2.1 j (by omega) dr q hq1 (by omega)
    · refine hQ z9 D ⟨fun q a b c e' f g => ?_, ?_, h35', R1⟩ (Or.inl h35)
      · rw [hq q a b e' f g]
        exact gq q e'
      · rw [hq 45 (by decide) (by decide) (by decide) (by decide) (by decide), gq 45 (by decide)]
        omega
  · rw [if_neg ch, ← el] at hA
    rw [e 41 (by decide), e 42 (by decide)]
    refine wq_beginNode hd hT R1 (by rw [gq 33 (by decide)]; exact hz) (by rw [gq 45 (by decide)]; exact ho) (by omega) g46 (by rw [gq 35 (by decide)]; exact hf) hCD ?_ hmvD hA (by omega) (fun z' C hW hI => hQ z' C (go_W_mono (fun q _ _ _ a _ _ => gq q a) hW) hI)
    rw [e 13 (by decide)]
    exact go_step (fun q a _ _ => e q a) e40 (fun i _ q _ => by rw [e 43 (by decide), e 44 (by decide)]; exact ⟨rfl, rfl⟩) (fun dr => absurd dr ch) hG
theorem wq_goOn {z : Nat → Int} {A B : Nat → Nat → Int} {d n j k : Nat} {Q : (Nat → Int) → (Nat → Nat → Int) → Prop} (hd : d < 2) (hT : mc_T A n) (hR : mz_R d A B) (hz : z 33 = (d : Int)) (ho : z 45 = ((j + 1 : Nat) : Int)) (hj : j ≤ 20) (hk : z 46 = (k : Int)) (hf : z 35 = 0) (hC : go_C B d) (hG : go_G B d (j + 1) (B 13 d) (-1)) (hmv : ∀ i, i < j → 0 ≤ B 40 i) (hA : (0 ≤ B 40 j ∧ ma_A (ma_t A n) k (go_l B (j + 1))) ∨ (B 40 j = -1 ∧ ma_A (ma_t A n) k ((if B 38 j = 63 then 303 else 300) :: go_l B (j + 1))))
    (hQ : ∀ z' C, go_W d A z z' C → (z' 35 ≠ 0 ∨ (z' 35 = 0 ∧ go_I (ma_t A n) d z' C k ∧ k < n)) → Q z' C) : wp_goOn z B (j : Int) Q := by
  have ej : ((j : Int)).toNat = j := by omega
  have hn := hT.2.1
  obtain ⟨hT', ht'⟩ := go_tok hR hT
  obtain ⟨n1, n2, n3, n4⟩ := hG.1 j (by omega)
  have hC1 := hC
  obtain ⟨⟨c0, c1, c2⟩, c3, c4⟩ := hC1
  have more : ma_A (ma_t A n) k (go_l B (j + 1)) → (ma_t A n k = 44 ∧ ma_A (ma_t A n) (k + 1) ((if B 38 j = 63 then 303 else 300) :: go_l B (j + 1))) ∨ (ma_t A n k ≠ 44 ∧ ma_t A n k = 41 ∧ ma_A (ma_t A n) (k + 1) (go_l B j)) := by
    intro h
    simp only [go_l] at h ⊢
    by_cases dr : B 38 j = 63
    · simp only [if_pos dr] at h ⊢
      rw [ma_more (v := 303) (Or.inl ⟨rfl, rfl⟩)] at h
      by_cases c : ma_t A n k = 44
      · rw [if_pos c] at h
        exact Or.inl ⟨c, h⟩
      · rw [if_neg c] at h
        exact Or.inr ⟨c, (ma_term (by decide)).mp h⟩
    · simp only [if_neg dr] at h ⊢
      rw [ma_more (v := 300) (Or.inr ⟨rfl, rfl⟩)] at h
      by_cases c : ma_t A n k = 44
      · rw [if_pos c] at h
        exact Or.inl ⟨c, h⟩
      · rw [if_neg c] at h
        exact Or.inr ⟨c, (ma_term (by decide)).mp h⟩
  have htk : ma_t A n k ≠ 0 ∧ ma_t A n k ≠ 2 := by
    rcases hA with ⟨-, h⟩ | ⟨-, h⟩
    · rcases more h with ⟨a, -⟩ | ⟨-, a, -⟩ <;> rw [a] <;> exact ⟨by decide, by decide⟩
    · by_cases dr : B 38 j = 63
      · rw [if_pos dr, ma_way, ma_frac] at h
        by_cases c : ma_t A n k = 45
        · rw [c]
          exact ⟨by decide, by decide⟩
        · rw [if_neg c] at h
          rw [((ma_term (by decide)).mp h).1]
          exact ⟨by decide, by decide⟩
      · rw [if_neg dr] at h
        rcases ma_node.mp h with ⟨a, -⟩ | ⟨a, -⟩ | ⟨a | a, -⟩ <;> rw [a] <;> exact ⟨by decide, by decide⟩
  obtain ⟨hkn, hk7⟩ := mo_tok hT htk.1 htk.2
  have ek : (z 46).toNat = k := by omega
  have e7 : B 7 = A 7 := hR.1 7 (by decide) (by decide)
  have QQ : ∀ k1, k ≤ k1 → ∀ z' C, go_W d A z z' C → (z' 35 ≠ 0 ∨ (z' 35 = 0 ∧ go_I (ma_t A n) d z' C k1)) → Q z' C := fun k1 hk1 z' C hW hI => by
    refine hQ z' C hW ?_
    rcases hI with h | ⟨h1, h2⟩
    · exact Or.inl h
    · exact Or.inr ⟨h1, go_I_mono hk1 h2, by omega⟩
  have r40 : hz_rI (B 40 j) := ⟨by omega, by omega⟩
  refine ⟨by omega, ?_⟩
  rw [ej]
  refine ⟨r40, fun neg => ⟨by omega, ?_⟩, fun pos => ⟨by omega, ?_⟩⟩
  · rw [ej, hk]
    rcases hA with ⟨h, -⟩ | ⟨-, hA⟩
    · omega
    · exact ⟨r40, fun _ => wq_goOn_72 hd hT hR hz ho hj hf hC hG hmv hA (QQ k (Nat.le_refl k)), fun c => absurd neg c⟩
  · rcases hA with ⟨-, hA⟩ | ⟨h, -⟩
    · rw [ek, e7, ← hk7]
      have r7 : hz_rI (ma_t A n k) := by
        rcases more hA with ⟨a, -⟩ | ⟨-, a, -⟩ <;> rw [a] <;> exact ⟨by decide, by decide⟩
      refine ⟨r7, fun c44 => ⟨by omega, ?_⟩, fun n44 => ?_⟩
      · rw [ej]
        have e1 : z 46 + 1 = ((k + 1 : Nat) : Int) := by omega
        rw [e1]
        rcases more hA with ⟨-, h⟩ | ⟨h, -⟩
        · exact ⟨r40, fun c => absurd c pos, fun _ => wq_goOn_72 hd hT hR hz ho hj hf hC hG hmv h (QQ (k + 1) (by omega))⟩
        · exact absurd c44 h
      · have acc : ma_A (ma_t A n) (k + 1) (go_l B j) := by
          rcases more hA with ⟨h, -⟩ | ⟨-, -, h⟩
          · exact absurd h n44
          · exact h
        have R28 : ∀ C, (∀ k, k ≠ 28 → C k = B k) → (∀ i, (i < 20 * d ∨ 20 * d + 20 ≤ i) → C 28 i = B 28 i) → mz_R d A C := fun C h1 h2 =>
          mz_R_trans hR ⟨fun q a b => h1 q (by omega), fun i _ => by rw [h1 14 (by decide), h1 25 (by decide)]; exact ⟨rfl, rfl⟩, fun i _ _ => by rw [h1 26 (by decide)], h2, fun i _ => by rw [h1 19 (by decide), h1 20 (by decide), h1 21 (by decide)]; exact ⟨rfl, rfl, rfl⟩, fun i _ => by rw [h1 22 (by decide), h1 23 (by decide)]; exact ⟨rfl, rfl⟩⟩
        have close : ∀ C z24 z25, z24 = lp_U z 46 (z 46 + 1) → z25 = lp_U z24 45 (z24 45 - 1) → (∀ k, k ≠ 28 → C k = B k) → (∀ i, (i < 20 * d ∨ 20 * d + 20 ≤ i) → C 28 i = B 28 i) → go_G C d j (B 13 d) (-1) → Q z25 C := by
          intro C z24 z25 h24 h25 hC0 h28 hG1
          have q35 : z25 35 = 0 := by rw [h25, lp_U_other (by decide), h24, lp_U_other (by decide)]; exact hf
          have q45 : z25 45 = (j : Int) := by
            rw [h25, lp_U_same, h24, lp_U_other (by decide)]
            omega
          have q46 : z25 46 = ((k + 1 : Nat) : Int) := by
            rw [h25, lp_U_other (by decide), h24, lp_U_same]
            omega
          have el : go_l C j = go_l B j := go_l_congr j (fun i _ => by rw [hC0 38 (by decide)])
          refine hQ z25 C ⟨fun q a b c e f g => ?_, by omega, by rw [q35]; exact ⟨by decide, by decide⟩, R28 C hC0 h28⟩ (Or.inr ⟨q35, ⟨j, k + 1, q45, q46, by omega, by omega, ?_, by rw [hC0 13 (by decide)]; exact hG1, fun i hi => by rw [hC0 40 (by decide)]; exact hmv i (by omega), ?_⟩, by omega⟩)
          · rw [h25, lp_U_other c, h24, lp_U_other e]
          · unfold go_C at *
            rw [hC0 13 (by decide), hC0 14 (by decide), hC0 24 (by decide)]
            exact hC
          · rw [← el] at acc
            cases j with
            | zero => exact Or.inl ⟨rfl, acc⟩
            | succ i => exact Or.inr ⟨i, rfl, Or.inl ⟨by rw [hC0 40 (by decide)]; exact hmv i (by omega), acc⟩⟩
        refine wq_finish hd hz hj hf hG c2 (by omega) (fun z' C h hC0 h28 z24 hz24 z25 hz25 => ?_) (fun dr z24 hz24 z25 hz25 => ?_) (fun C nd h4 hC0 h28 z24 hz24 z25 hz25 => ?_)
        · have q35 : z25 35 = z' 35 := by rw [hz25, lp_U_other (by decide), hz24, lp_U_other (by decide)]
          refine hQ z25 C ⟨fun q a b c e f g => ?_, ?_, by rw [q35]; exact h.2.2, R28 C hC0 h28⟩ (Or.inl (by rw [q35]; exact h.2.1))
          · rw [hz25, lp_U_other c, hz24, lp_U_other e]
            exact h.1 q a b
          · rw [hz25, lp_U_same, hz24, lp_U_other (by decide), h.1 45 (by decide) (by decide)]
            omega
        · exact close B z24 z25 hz24 hz25 (fun _ _ => rfl) (fun _ _ => rfl) (go_close (fun _ _ => rfl) (Or.inl ⟨dr, rfl⟩) hG)
        · obtain ⟨p, s, p1, p2, p3, p4⟩ := hG.2.2.1 j (by omega) nd
          exact close C z24 z25 hz24 hz25 hC0 (fun i hi => by rw [h28, if_neg (by omega)]) (go_close hC0 (Or.inr ⟨nd, by omega, h4, h28⟩) hG)
    · omega

-- 60.over
theorem lq_pp_range {A : Nat → Nat → Int} {g p : Nat} (n : Nat) (h : ∀ s, s < n → 0 ≤ A 28 (20 * g + (10 * p + s)) ∧ A 28 (20 * g + (10 * p + s)) ≤ 4) : 0 ≤ lq_pp A g p n ∧ lq_pp A g p n ≤ ((4 ^ n : Nat) : Int) := by
  induction n with
  | zero =>
    show (0 : Int) ≤ 1 ∧ (1 : Int) ≤ ((4 ^ 0 : Nat) : Int)
    decide
  | succ n ih =>
    obtain ⟨a, b⟩ := ih (fun s hs => h s (by omega))
    obtain ⟨c, d⟩ := h n (by omega)
    simp only [lq_pp]
    refine ⟨Int.mul_nonneg a c, ?_⟩
    rw [Nat.pow_succ, Int.natCast_mul]
    exact Int.mul_le_mul b d c (Int.le_trans a b)
/-- a draft that is whole is a game -/
theorem go_G_game {B C : Nat → Nat → Int} {d : Nat} {c : Int} (hC : go_C B d) (hG : go_G B d 0 c (-1)) (e : ∀ k, k ≠ 19 → k ≠ 25 → C k = B k) (h0 : lq_pp B d 0 (B 26 (2 * d + 0)).toNat ≤ 64) (h1 : lq_pp B d 1 (B 26 (2 * d + 1)).toNat ≤ 64) (h25 : 1 ≤ C 25 d ∧ C 25 d < 1000000000) (h19 : ∀ i : Nat, (i : Int) < B 14 d → -1000000000 < C 19 (400 * d + i) ∧ C 19 (400 * d + i) < 1000000000) (hd : d < 2) : mg_G C d ∧ mg_D C d := by
  obtain ⟨⟨c0, c1, c2⟩, c3, c4⟩ := hC
  obtain ⟨hN, hS, hT, hP, hH, hZ, hE⟩ := hG
  have ep : ∀ p n, lq_pp C d p n = lq_pp B d p n := fun p n => by
    induction n with
    | zero => rfl
    | succ n ih => simp only [lq_pp]; rw [ih, e 28 (by decide) (by decide)]
  have sets : ∀ p, p < 2 → mg_S C d p := fun p hp => by
    obtain ⟨a, b⟩ := hS p hp
    unfold mg_S
    rw [e 26 (by decide) (by decide), e 28 (by decide) (by decide)]
    refine ⟨a, fun s hs => ?_⟩
    obtain ⟨-, b2, -⟩ := b s hs
    have b3 : B 28 (20 * d + (10 * p + s)) ≠ 0 := fun h => by
      rcases hZ p hp s hs h with h | ⟨j, hj, -⟩
      · omega
      · omega
    omega
  refine ⟨⟨⟨by rw [e 14 (by decide) (by decide)]; omega, fun i hi => ?_⟩, sets 0 (by decide), sets 1 (by decide), ?_, ?_, h25⟩, fun i hi => ?_, fun i hi => ?_⟩
  · rw [e 14 (by decide) (by decide)] at hi
    obtain ⟨a1, a2, a3, a4, a5⟩ := hE i hi
    rw [e 20 (by decide) (by decide), e 21 (by decide) (by decide), e 22 (by decide) (by decide), e 23 (by decide) (by decide)]
    refine ⟨by omega, h19 i hi, fun w w0 w1 => ?_⟩
    obtain ⟨b1, b2, b3⟩ := a4 w w0 w1
    rcases b3 with b3 | ⟨j, hj, -⟩
    · omega
    · omega
  · rw [ep, e 26 (by decide) (by decide)]
    exact h0
  · rw [ep, e 26 (by decide) (by decide)]
    exact h1
  · rw [e 14 (by decide) (by decide)] at hi
    obtain ⟨a1, -⟩ := hE i hi
    rw [e 20 (by decide) (by decide), e 21 (by decide) (by decide)]
    omega
  · rw [e 14 (by decide) (by decide)] at hi
    obtain ⟨-, -, -, -, a5⟩ := hE i hi
    rw [e 20 (by decide) (by decide), e 21 (by decide) (by decide), e 22 (by decide) (by decide)]
    exact a5
theorem wq_over {z : Nat → Int} {B : Nat → Nat → Int} {d n : Nat} {c : Int} {Q : (Nat → Int) → (Nat → Nat → Int) → Prop} (hd : d < 2) (hz : z 33 = (d : Int)) (hf : z 35 = 0) (h10 : z 10 = (n : Int)) (hn : 1 ≤ n ∧ n ≤ 4001) (hC : go_C B d) (hG : go_G B d 0 c (-1))
    (hQ : ∀ z' C, mz_R d B C → (mo_stop z z' ∨ (z' = z ∧ mg_G C d ∧ mg_D C d)) → Q z' C) : wp_over z B Q := by
  have hC1 := hC
  obtain ⟨⟨c0, c1, c2⟩, c3, c4⟩ := hC1
  have hf' : hz_rI (z 35) := by rw [hf]; exact ⟨by decide, by decide⟩
  have ed : (z 33).toNat = d := by omega
  have hS := hG.2.1
  have hE := hG.2.2.2.2.2.2
  obtain ⟨E, hE0⟩ : ∃ E : Nat, B 14 d = (E : Int) := ⟨(B 14 d).toNat, by omega⟩
  have pr : ∀ p, p < 2 → hz_rI (lq_pp B d p (B 26 (2 * d + p)).toNat) := fun p hp => by
    obtain ⟨a, b⟩ := hS p hp
    obtain ⟨u, v⟩ := lq_pp_range (A := B) (g := d) (p := p) (B 26 (2 * d + p)).toNat (fun s hs => (b s (by omega)).2.1)
    have w : 4 ^ (B 26 (2 * d + p)).toNat ≤ 4 ^ 10 := Nat.pow_le_pow_right (by decide) (by omega)
    have w2 : 4 ^ 10 = 1048576 := by decide
    rw [w2] at w
    exact ⟨by omega, by omega⟩
  have stop2 : wp_over_28 z B Q := wq_stop (by decide) (by omega) hf' (fun z' h => hQ z' B (mz_R_refl d B) (Or.inl h))
  have p0 := wq_plansOf (z := z) (A := B) (g := d) (p := 0) (Q := fun r_25 => hz_rI r_25 ∧ ((64 < r_25 → wp_over_28 z B  Q) ∧ (¬ (64 < r_25) → wp_plansOf z B (z 33) 1 (fun r_27 => hz_rI r_27 ∧ ((r_27 ≤ 64 → ∀ x3_29 : Int, x3_29 = 400 * (z 33) → wp_over_51 z B 1 x3_29  Q) ∧ (¬ (r_27 ≤ 64) → wp_over_28 z B  Q)))))) hd (by decide) (hS 0 (by decide)).1
  unfold wp_over
  rw [← hz] at p0
  refine p0 ⟨pr 0 (by decide), fun _ => stop2, fun q0 => ?_⟩
  have p1 := wq_plansOf (z := z) (A := B) (g := d) (p := 1) (Q := fun r_27 => hz_rI r_27 ∧ ((r_27 ≤ 64 → ∀ x3_29 : Int, x3_29 = 400 * (z 33) → wp_over_51 z B 1 x3_29  Q) ∧ (¬ (r_27 ≤ 64) → wp_over_28 z B  Q))) hd (by decide) (hS 1 (by decide)).1
  rw [← hz] at p1
  refine p1 ⟨pr 1 (by decide), fun q1 x3 hx3 => ?_, fun _ => stop2⟩
  -- the weights
  have second : ∀ x1 : Int, 1 ≤ x1 → x1 ≤ 1000000000000000000 → wp_over_122 z B x1 Q := by
    intro x1 x10 x11
    refine ⟨⟨by omega, by omega⟩, fun small => ⟨by omega, fun D hD x3 hx3 => ?_⟩, fun _ => wq_stop (by decide) (by omega) hf' (fun z' h => hQ z' B (mz_R_refl d B) (Or.inl h))⟩
    have e25 : ∀ i, D 25 i = if i = d then x1 else B 25 i := fun i => by
      rw [hD, lq_s_fun]
      unfold hz_u
      rw [ed]
    have eD : ∀ k, k ≠ 25 → D k = B k := fun k hk => by rw [hD, hb_s_other hk]
    intro P hP
    have RC : ∀ C, (∀ k, k ≠ 19 → C k = D k) → (∀ i, (i < 400 * d ∨ 400 * d + 400 ≤ i) → C 19 i = B 19 i) → mz_R d B C := fun C h1 h2 => by
      have h3 : ∀ k, k ≠ 19 → k ≠ 25 → C k = B k := fun k a b => by rw [h1 k a]; exact eD k b
      refine ⟨fun q a b => h3 q (by omega) (by omega), fun i hi => ?_, fun i _ _ => by rw [h3 26 (by decide) (by decide)], fun i _ => by rw [h3 28 (by decide) (by decide)], fun i hi => ?_, fun i _ => ?_⟩
      · rw [h3 14 (by decide) (by decide), h1 25 (by decide), e25, if_neg hi]
        exact ⟨rfl, rfl⟩
      · rw [h2 i hi, h3 20 (by decide) (by decide), h3 21 (by decide) (by decide)]
        exact ⟨rfl, rfl, rfl⟩
      · rw [h3 22 (by decide) (by decide), h3 23 (by decide) (by decide)]
        exact ⟨rfl, rfl⟩
    have key : ∀ (m i : Nat) (C : Nat → Nat → Int), E - i = m → i ≤ E → (∀ k, k ≠ 19 → C k = D k) → (∀ i, (i < 400 * d ∨ 400 * d + 400 ≤ i) → C 19 i = B 19 i) → (∀ q : Nat, q < i → -1000000000 < C 19 (400 * d + q) ∧ C 19 (400 * d + q) < 1000000000) → P C ((400 * d + i : Nat) : Int) := by
      intro m
      induction m with
      | zero =>
        intro i C hm hi hC0 hout hin
        have e14 : C 14 d = (E : Int) := by rw [hC0 14 (by decide), eD 14 (by decide)]; exact hE0
        refine hP C _ ⟨by omega, ⟨by omega, by omega⟩, by rw [ed, e14]; exact ⟨by omega, by omega⟩, fun _ => ?_, fun h => by rw [ed, e14] at h; omega⟩
        refine hQ z C (RC C hC0 hout) (Or.inr ⟨rfl, go_G_game hC hG (fun k a b => by rw [hC0 k a]; exact eD k b) (by omega) q1 ?_ (fun q hq => hin q (by omega)) hd⟩)
        rw [hC0 25 (by decide), e25, if_pos rfl]
        exact ⟨x10, small⟩
      | succ m ih =>
        intro i C hm hi hC0 hout hin
        have e14 : C 14 d = (E : Int) := by rw [hC0 14 (by decide), eD 14 (by decide)]; exact hE0
        have e17 : C 17 = B 17 := by rw [hC0 17 (by decide), eD 17 (by decide)]
        have e18 : C 18 = B 18 := by rw [hC0 18 (by decide), eD 18 (by decide)]
        obtain ⟨-, a2, a3, -⟩ := hE i (by omega)
        have ei : (((400 * d + i : Nat) : Int)).toNat = 400 * d + i := by omega
        -- a weight is written and looked at
        have wr : ∀ t0 : Int, -1000000000000000000 ≤ t0 → t0 ≤ 1000000000000000000 → wp_over_244 z C x1 ((400 * d + i : Nat) : Int) t0 ((400 * d + i : Nat) : Int) P Q := by
          intro t0 t1 t2
          refine ⟨by omega, fun F hF => ⟨by omega, ?_⟩⟩
          have f19 : ∀ q, F 19 q = if q = 400 * d + i then t0 else C 19 q := fun q => by
            rw [hF, lq_s_fun]
            unfold hz_u
            rw [ei]
          have f0 : ∀ k, k ≠ 19 → F k = D k := fun k hk => by rw [hF, hb_s_other hk]; exact hC0 k hk
          have fo : ∀ q, (q < 400 * d ∨ 400 * d + 400 ≤ q) → F 19 q = B 19 q := fun q hq => by rw [f19, if_neg (by omega)]; exact hout q hq
          have st : wp_over_271 z F Q := wq_stop (by decide) (by omega) hf' (fun z' h => hQ z' F (RC F f0 fo) (Or.inl h))
          have fi : F 19 (400 * d + i) = t0 := by rw [f19, if_pos rfl]
          rw [ei, fi]
          refine ⟨⟨by omega, by omega⟩, fun _ => st, fun l1 => ⟨by omega, ⟨by omega, by omega⟩, fun l2 x hx => ?_, fun _ => st⟩⟩
          have ex : x = ((400 * d + (i + 1) : Nat) : Int) := by omega
          rw [ex]
          refine ih (i + 1) F (by omega) (by omega) f0 fo (fun q hq => ?_)
          rw [f19]
          split
          · exact ⟨by omega, by omega⟩
          · exact hin q (by omega)
        refine hP C _ ⟨by omega, ⟨by omega, by omega⟩, by rw [ed, e14]; exact ⟨by omega, by omega⟩, fun h => by rw [ed, e14] at h; omega, fun _ => ⟨by omega, fun x4 hx4 => ?_⟩⟩
        rw [ei, e17] at hx4
        have big : wp_over_210 z C x1 ((400 * d + i : Nat) : Int) x4 P Q := ⟨⟨by decide, by decide⟩, fun h => absurd h (by decide), fun _ => wr _ (by decide) (by decide)⟩
        refine ⟨⟨by omega, by omega⟩, fun _ => big, fun l1 => ⟨⟨by omega, by omega⟩, fun l2 => ⟨⟨by decide, by decide⟩, fun _ => ⟨by omega, ?_⟩, fun h => absurd rfl h⟩, fun _ => big⟩⟩
        rw [ei, e18]
        have t0 : 0 ≤ x1.tdiv (B 18 (400 * d + i)) := Int.tdiv_nonneg (by omega) (by omega)
        have t1 : x1.tdiv (B 18 (400 * d + i)) ≤ x1 := by
          rw [Int.tdiv_eq_ediv_of_nonneg (by omega)]
          exact Int.ediv_le_self _ (by omega)
        have u1 : x1.tdiv (B 18 (400 * d + i)) * x4 ≤ x1.tdiv (B 18 (400 * d + i)) * 1000000000 := Int.mul_le_mul_of_nonneg_left (by omega) t0
        have u2 : x1.tdiv (B 18 (400 * d + i)) * (-1000000000) ≤ x1.tdiv (B 18 (400 * d + i)) * x4 := Int.mul_le_mul_of_nonneg_left (by omega) t0
        exact ⟨by omega, ⟨by omega, by omega⟩, ⟨by omega, by omega⟩, wr _ (by omega) (by omega)⟩
    have h := key _ 0 D rfl (by omega) (fun _ _ => rfl) (fun i _ => by rw [eD 19 (by decide)]) (fun q hq => by omega)
    have ex : x3 = ((400 * d + 0 : Nat) : Int) := by omega
    rw [ex]
    exact h
  -- the common number
  intro P hP
  have key : ∀ (m i : Nat) (x1 : Int), E - i = m → i ≤ E → 1 ≤ x1 → x1 ≤ 1000000000000000000 → P x1 ((400 * d + i : Nat) : Int) := by
    intro m
    induction m with
    | zero =>
      intro i x1 hm hi x10 x11
      exact hP x1 _ ⟨by omega, ⟨by omega, by omega⟩, by rw [ed, hE0]; exact ⟨by omega, by omega⟩, fun _ => second x1 x10 x11, fun h => by rw [ed, hE0] at h; omega⟩
    | succ m ih =>
      intro i x1 hm hi x10 x11
      obtain ⟨-, a2, a3, -⟩ := hE i (by omega)
      have ei : (((400 * d + i : Nat) : Int)).toNat = 400 * d + i := by omega
      refine hP x1 _ ⟨by omega, ⟨by omega, by omega⟩, by rw [ed, hE0]; exact ⟨by omega, by omega⟩, fun h => by rw [ed, hE0] at h; omega, fun _ => ⟨⟨by omega, by omega⟩, fun _ => second x1 x10 x11, fun sm => ⟨by omega, fun x4 hx4 => ?_⟩⟩⟩
      rw [ei] at hx4
      have next : ∀ t0 : Int, 1 ≤ t0 → t0 ≤ 1000000000000000000 → wp_over_115 z B ((400 * d + i : Nat) : Int) t0 P Q := by
        intro t0 t1 t2 x hx
        have ex : x = ((400 * d + (i + 1) : Nat) : Int) := by omega
        rw [ex]
        exact ih (i + 1) t0 (by omega) (by omega) t1 t2
      refine ⟨⟨by omega, by omega⟩, fun l4 => wq_divisor (by omega) (by omega) (fun r r1 ra rb => ?_), fun _ => next _ (by decide) (by decide)⟩
      have rr := Int.le_of_dvd (by omega) rb
      obtain ⟨m1, m2⟩ := mo_divn r1 ra
      have m3 := m2 x10
      have u1 : 1 * 1 ≤ x1.tdiv r * x4 := Int.mul_le_mul m3 (by omega) (by decide) (by omega)
      have u2 : x1.tdiv r * x4 ≤ 1000000000 * 1000000000 := Int.mul_le_mul (by omega) (by omega) (by omega) (by omega)
      exact ⟨by omega, ⟨by omega, by omega⟩, ⟨by omega, by omega⟩, next _ (by omega) (by omega)⟩
  have h := key _ 0 1 rfl (by omega) (by decide) (by decide)
  have ex : x3 = ((400 * d + 0 : Nat) : Int) := by omega
  rw [ex]
  exact h

-- 61.go
theorem wq_go {z : Nat → Int} {A : Nat → Nat → Int} {d n : Nat} {Q : Int → (Nat → Int) → (Nat → Nat → Int) → Prop} (hd : d < 2) (hz : z 33 = (d : Int)) (h10 : z 10 = (n : Int)) (hT : mc_T A n) (hA : ma_A (ma_t A n) 0 [300, 0])
    (hQ : ∀ z' C, (∀ q, q ≠ 35 → q ≠ 36 → q ≠ 45 → q ≠ 46 → q ≠ 47 → q ≠ 48 → z' q = z q) → hz_rI (z' 35) → mz_R d A C → (z' 35 ≠ 0 ∨ (z' 35 = 0 ∧ mg_G C d ∧ mg_D C d)) → Q (z' 35) z' C) : wp_go z A Q := by
  have ed : (z 33).toNat = d := by omega
  have e2d : (2 * z 33).toNat = 2 * d := by omega
  have e2d1 : (2 * z 33 + 1).toNat = 2 * d + 1 := by omega
  refine ⟨by omega, fun A10 h10' => ⟨by omega, fun A11 h11 => ⟨by omega, fun A12 h12 => ⟨by omega, fun A13 h13 => ⟨by omega, fun A14 h14 => ⟨by omega, fun A15 h15 => ⟨by omega, fun B hB z17 h17 z18 h18 z19 h19 => ?_⟩⟩⟩⟩⟩⟩⟩
  have b0 : ∀ k, k ≠ 13 → k ≠ 14 → k ≠ 15 → k ≠ 16 → k ≠ 24 → k ≠ 26 → B k = A k := fun k a b c e f g => by rw [hB, hb_s_other g, h15, hb_s_other g, h14, hb_s_other f, h13, hb_s_other e, h12, hb_s_other c, h11, hb_s_other b, h10', hb_s_other a]
  have b13 : B 13 d = 0 := by
    rw [hB, hb_s_other (by decide), h15, hb_s_other (by decide), h14, hb_s_other (by decide), h13, hb_s_other (by decide), h12, hb_s_other (by decide), h11, hb_s_other (by decide), h10', lq_s_fun]
    unfold hz_u
    rw [ed, if_pos rfl]
  have b14 : ∀ i, B 14 i = if i = d then 0 else A 14 i := fun i => by
    rw [hB, hb_s_other (by decide), h15, hb_s_other (by decide), h14, hb_s_other (by decide), h13, hb_s_other (by decide), h12, hb_s_other (by decide), h11, lq_s_fun]
    unfold hz_u
    rw [ed, h10', hb_s_other (by decide)]
  have b24 : B 24 d = 0 := by
    rw [hB, hb_s_other (by decide), h15, hb_s_other (by decide), h14, lq_s_fun]
    unfold hz_u
    rw [ed, if_pos rfl]
  have b26 : ∀ i, B 26 i = if i = 2 * d + 1 then 0 else if i = 2 * d then 0 else A 26 i := fun i => by
    rw [hB, lq_s_fun]
    unfold hz_u
    rw [e2d1, h15, lq_s_fun]
    unfold hz_u
    rw [e2d, h14, hb_s_other (by decide), h13, hb_s_other (by decide), h12, hb_s_other (by decide), h11, hb_s_other (by decide), h10', hb_s_other (by decide)]
  have RB : mz_R d A B := by
    refine ⟨fun q a b => b0 q (by omega) (by omega) (by omega) (by omega) (by omega) (by omega), fun i hi => ?_, fun i a b => ?_, fun i _ => by rw [b0 28 (by decide) (by decide) (by decide) (by decide) (by decide) (by decide)], fun i _ => ?_, fun i _ => ?_⟩
    · rw [b14, if_neg hi, b0 25 (by decide) (by decide) (by decide) (by decide) (by decide) (by decide)]
      exact ⟨rfl, rfl⟩
    · rw [b26, if_neg b, if_neg a]
    · rw [b0 19 (by decide) (by decide) (by decide) (by decide) (by decide) (by decide), b0 20 (by decide) (by decide) (by decide) (by decide) (by decide) (by decide), b0 21 (by decide) (by decide) (by decide) (by decide) (by decide) (by decide)]
      exact ⟨rfl, rfl, rfl⟩
    · rw [b0 22 (by decide) (by decide) (by decide) (by decide) (by decide) (by decide), b0 23 (by decide) (by decide) (by decide) (by decide) (by decide) (by decide)]
      exact ⟨rfl, rfl⟩
  have s26 : ∀ p, p < 2 → B 26 (2 * d + p) = 0 := fun p hp => by
    rw [b26]
    by_cases e : p = 1
    · rw [if_pos (by omega)]
    · rw [if_neg (by omega), if_pos (by omega)]
  have e14 : B 14 d = 0 := by rw [b14, if_pos rfl]
  have G0 : go_G B d 0 (B 13 d + 1) (-1) := by
    refine ⟨fun j hj => by omega, fun p hp => ?_, fun j hj => by omega, fun j hj => by omega, fun j hj => by omega, fun p hp s hs => ?_, fun e he => ?_⟩
    · rw [s26 p hp]
      exact ⟨by omega, fun s hs => by omega⟩
    · rw [s26 p hp] at hs
      omega
    · rw [e14] at he
      omega
  have C0 : go_C B d := by
    unfold go_C
    rw [b13, e14, b24]
    decide
  have g : ∀ q, q ≠ 35 → q ≠ 45 → q ≠ 46 → z19 q = z q := fun q a b c => by rw [h19, lp_U_other c, h18, lp_U_other b, h17, lp_U_other a]
  have g35 : z19 35 = 0 := by rw [h19, lp_U_other (by decide), h18, lp_U_other (by decide), h17, lp_U_same]
  have g45 : z19 45 = ((0 : Nat) : Int) := by rw [h19, lp_U_other (by decide), h18, lp_U_same]; rfl
  have g46 : z19 46 = ((0 : Nat) : Int) := by rw [h19, lp_U_same]; rfl
  refine wq_beginNode (o := 0) (k := 0) hd hT RB (by rw [g 33 (by decide) (by decide) (by decide)]; exact hz) g45 (by decide) g46 g35 C0 G0 (fun j hj => by omega) hA (by decide) (fun z1 C1 hW1 hI1 => ?_)
  intro P hP
  have stopd : ∀ (z1 : Nat → Int) (C : Nat → Nat → Int), go_W d A z z1 C → z1 35 ≠ 0 → P z1 C := by
    intro z1 C ⟨w1, w2, w3, w4⟩ hI
    have fin : wp_go_124 z1 C Q := ⟨w3, fun _ => hQ z1 C w1 w3 w4 (Or.inl hI), fun c => absurd c hI⟩
    exact hP z1 C ⟨⟨by omega, by omega⟩, fun _ => fin, fun _ => ⟨w3, fun _ => fin, fun c => absurd c hI⟩⟩
  have key : ∀ (m : Nat) (z1 : Nat → Int) (C : Nat → Nat → Int) (k0 : Nat), n - (z1 46).toNat = m → go_W d A z z1 C → z1 35 = 0 → go_I (ma_t A n) d z1 C k0 → P z1 C := by
    intro m
    induction m using Nat.strongRecOn with
    | ind m ih =>
      intro z1 C k0 hm hW z35 hI
      obtain ⟨w1, w2, w3, w4⟩ := hW
      have r45 : hz_rI (z1 45) := ⟨by omega, by omega⟩
      obtain ⟨o, k, i45, i46, ik, io, iC, iG, imv, iA⟩ := hI
      have z33 : z1 33 = (d : Int) := by rw [w1 33 (by decide) (by decide) (by decide) (by decide) (by decide) (by decide)]; exact hz
      have z10 : z1 10 = (n : Int) := by rw [w1 10 (by decide) (by decide) (by decide) (by decide) (by decide) (by decide)]; exact h10
      refine hP z1 C ⟨r45, fun le => ⟨w3, fun c => absurd z35 c, fun _ => ?_⟩, fun gt => ⟨w3, fun c => absurd z35 c, fun _ => ?_⟩⟩
      · have o0 : o = 0 := by omega
        subst o0
        refine wq_over hd z33 z35 z10 ⟨hT.1, hT.2.1⟩ iC iG (fun z' D hR hO => ?_)
        rcases hO with hO | ⟨hO, hg, hD⟩
        · exact hQ z' D (fun q a b c e f g => (hO.1 q a b).trans (w1 q a b c e f g)) hO.2.2 (mz_R_trans w4 hR) (Or.inl hO.2.1)
        · rw [hO]
          exact hQ z1 D w1 w3 (mz_R_trans w4 hR) (Or.inr ⟨z35, hg, hD⟩)
      · rcases iA with ⟨h, -⟩ | ⟨j, hj, hA'⟩
        · omega
        · subst hj
          have ej : z1 45 - 1 = (j : Int) := by omega
          rw [ej]
          refine wq_goOn hd hT w4 z33 i45 (by omega) i46 z35 iC iG (fun i hi => imv i (by omega)) hA' (fun z' D hW' hI' => ?_)
          rcases hI' with h | ⟨h1, h2, h3⟩
          · exact stopd z' D (go_W_mono w1 hW') h
          · have h4 := h2
            obtain ⟨o', k', a1, a2, a3, -⟩ := h4
            exact ih _ (by omega) z' D k rfl (go_W_mono w1 hW') h1 h2
  have W19 := go_W_mono (z := z) (fun q a _ c e _ _ => g q a c e) hW1
  rcases hI1 with h | ⟨h1, h2⟩
  · exact stopd z1 C1 W19 h
  · exact key _ z1 C1 0 rfl W19 h1 h2

-- 62.read
theorem mg_G_49 {A B : Nat → Nat → Int} {g : Nat} (e : ∀ k, k ≠ 49 → k ≠ 50 → k ≠ 51 → B k = A k) (hG : mg_G A g) (hD : mg_D A g) : mg_G B g ∧ mg_D B g := by
  have ep : ∀ g p n, lq_pp B g p n = lq_pp A g p n := fun g p n => by
    induction n with
    | zero => rfl
    | succ n ih => simp only [lq_pp]; rw [ih, e 28 (by decide) (by decide) (by decide)]
  unfold mg_G mg_E mg_S mg_D at *
  rw [e 14 (by decide) (by decide) (by decide), e 19 (by decide) (by decide) (by decide), e 20 (by decide) (by decide) (by decide), e 21 (by decide) (by decide) (by decide), e 22 (by decide) (by decide) (by decide), e 23 (by decide) (by decide) (by decide), e 25 (by decide) (by decide) (by decide), e 26 (by decide) (by decide) (by decide), e 28 (by decide) (by decide) (by decide), ep, ep]
  exact ⟨hG, hD⟩
theorem wq_read {z : Nat → Int} {A : Nat → Nat → Int} {Q : Int → (Nat → Int) → (Nat → Nat → Int) → Prop} (hI : mi_I z A) (hQ : ∀ r z' C, mi_I z' C → z' 5 = 0 → Q r z' C) : wp_read z A Q := by
  obtain ⟨i1, i2, i3, i4, i5, i6, i7, i8, i9, i10⟩ := hI
  obtain ⟨d, hd, hz33⟩ : ∃ d : Nat, d < 2 ∧ z 33 = (d : Int) := ⟨(z 33).toNat, by omega, by omega⟩
  intro z9 hz9
  have g9 : ∀ q, q ≠ 3 → z9 q = z q := fun q a => by rw [hz9, lp_U_other a]
  refine wq_cut (by rw [g9 5 (by decide)]; exact i1) (by rw [g9 5 (by decide)]; exact i2) (fun n A12 hZ hT z13 hz13 => ?_)
  have g13 : ∀ q, q ≠ 3 → q ≠ 5 → q ≠ 10 → z13 q = z q := fun q a b c => by rw [hz13, lp_U_other b, lp_U_other c]; exact g9 q a
  have g13a : z13 5 = 0 := by rw [hz13, lp_U_same]
  have g13b : z13 10 = (n : Int) := by rw [hz13, lp_U_other (by decide), lp_U_same]
  refine wq_bad hT (fun r z15 B hz15 hK hr => ?_)
  have n1 := hT.2.1
  have g : ∀ q, q ≠ 3 → q ≠ 5 → q ≠ 10 → q ≠ 12 → z15 q = z q := fun q a b c e => by rw [hz15 q e]; exact g13 q a b c
  have g5 : z15 5 = 0 := by rw [hz15 5 (by decide)]; exact g13a
  have g10 : z15 10 = (n : Int) := by rw [hz15 10 (by decide)]; exact g13b
  have b0 : ∀ k, k ≠ 7 → k ≠ 8 → k ≠ 9 → k ≠ 11 → B k = A k := fun k a b c e => by rw [hK k e]; exact hZ k a b c
  -- what was is kept
  have kept : ∀ (z' : Nat → Int) (C : Nat → Nat → Int), mz_R d B C → z' 5 = 0 → z' 34 = z 34 → z' 32 = z 32 → z' 33 = z 33 → z' 57 = z 57 → mi_I z' C := by
    intro z' C hR h5 h34 h32 h33 h57
    have c0 : ∀ k, (k < 7 ∨ 44 < k) → C k = A k := fun k hk => by rw [hR.1 k (by omega) (by omega)]; exact b0 k (by omega) (by omega) (by omega) (by omega)
    unfold mi_I
    rw [h5, h34, h32, h33, h57, c0 52 (by decide), c0 51 (by decide)]
    refine ⟨by decide, fun i hi => by omega, i3, i4, i5, fun c => ?_, (hb_arr (c0 0 (by decide)) (c0 1 (by decide)) (c0 2 (by decide))).1 i7, i8, i9, i10⟩
    obtain ⟨j1, j2, j3⟩ := i6 c
    have hB : mg_G B (z 32).toNat ∧ mg_D B (z 32).toNat := by
      have e : ∀ k, 11 < k → B k = A k := fun k hk => b0 k (by omega) (by omega) (by omega) (by omega)
      have ep : ∀ g p n, lq_pp B g p n = lq_pp A g p n := fun g p n => by
        induction n with
        | zero => rfl
        | succ n ih => simp only [lq_pp]; rw [ih, e 28 (by decide)]
      unfold mg_G mg_E mg_S mg_D at *
      rw [e 14 (by decide), e 19 (by decide), e 20 (by decide), e 21 (by decide), e 22 (by decide), e 23 (by decide), e 25 (by decide), e 26 (by decide), e 28 (by decide), ep, ep]
      exact ⟨j1, j2⟩
    obtain ⟨k1, k2⟩ := mz_R_G hd (by omega) (by omega) hR hB.1 hB.2
    refine ⟨k1, k2, ?_⟩
    unfold mg_W at *
    rw [c0 49 (by decide), c0 50 (by decide)]
    exact j3
  refine ⟨by rcases hr with ⟨h, -⟩ | h <;> exact ⟨by omega, by omega⟩, fun neg => ?_, fun pos => ⟨?_, fun z27 hz27 => ?_⟩⟩
  · have hA : ma_A (ma_t A12 n) 0 [300, 0] := by
      rcases hr with ⟨-, h⟩ | h
      · exact h
      · omega
    have e7 : B 7 = A12 7 := hK 7 (by decide)
    have hT' : mc_T B n := by
      unfold mc_T mc_K at *
      rw [e7, hK 8 (by decide), hK 9 (by decide)]
      exact hT
    have ht : ma_t B n = ma_t A12 n := by
      unfold ma_t
      rw [e7]
    have g33 : z15 33 = (d : Int) := by rw [g 33 (by decide) (by decide) (by decide) (by decide)]; exact hz33
    refine wq_go hd g33 g10 hT' (by rw [ht]; exact hA) (fun z19 C w1 w3 hR hO => ⟨w3, fun z0 z22 h22 z23 h23 z24 h24 z25 h25 => ?_, fun nz z26 h26 => ?_⟩)
    · have hg : mg_G C d ∧ mg_D C d := by
        rcases hO with h | ⟨-, h⟩
        · exact absurd z0 h
        · exact h
      have v : ∀ q, q ≠ 6 → q ≠ 32 → q ≠ 33 → q ≠ 34 → z25 q = z19 q := fun q a b c e => by rw [h25, lp_U_other a, h24, lp_U_other e, h23, lp_U_other c, h22, lp_U_other b]
      have z19_33 : z19 33 = (d : Int) := by rw [w1 33 (by decide) (by decide) (by decide) (by decide) (by decide) (by decide)]; exact g33
      have v5 : z25 5 = 0 := by rw [v 5 (by decide) (by decide) (by decide) (by decide), w1 5 (by decide) (by decide) (by decide) (by decide) (by decide) (by decide)]; exact g5
      have v57 : z25 57 = z 57 := by rw [v 57 (by decide) (by decide) (by decide) (by decide), w1 57 (by decide) (by decide) (by decide) (by decide) (by decide) (by decide)]; exact g 57 (by decide) (by decide) (by decide) (by decide)
      have v34 : z25 34 = 1 := by rw [h25, lp_U_other (by decide), h24, lp_U_same]
      have v32 : z25 32 = (d : Int) := by rw [h25, lp_U_other (by decide), h24, lp_U_other (by decide), h23, lp_U_other (by decide), h22, lp_U_same]; exact z19_33
      have v33 : z25 33 = 1 - (d : Int) := by rw [h25, lp_U_other (by decide), h24, lp_U_other (by decide), h23, lp_U_same, h22, lp_U_same, z19_33]
      have c0 : ∀ k, (k < 7 ∨ 44 < k) → C k = A k := fun k hk => by rw [hR.1 k (by omega) (by omega)]; exact b0 k (by omega) (by omega) (by omega) (by omega)
      have second : ∀ D, (∀ k, k ≠ 49 → k ≠ 50 → k ≠ 51 → D k = C k) → (∀ s, D 51 s = 0 ∨ D 51 s = 1) → wp_read_105 z25 D 0 Q := by
        intro D hD h51 P hP
        have key : ∀ (m i : Nat) (F : Nat → Nat → Int), 80 - i = m → i ≤ 80 → (∀ k, k ≠ 49 → k ≠ 50 → F k = D k) → (∀ q, q < i → (F 49 q = 0 ∨ F 49 q = 1) ∧ F 50 q = 1) → P F (i : Int) := by
          intro m
          induction m with
          | zero =>
            intro i F hm hi hF hW
            refine hP F _ ⟨⟨by omega, by omega⟩, fun _ => hQ 0 z25 F ?_ v5, fun c => by omega⟩
            have f0 : ∀ k, k ≠ 49 → k ≠ 50 → k ≠ 51 → F k = C k := fun k a b c => by rw [hF k a b]; exact hD k a b c
            unfold mi_I
            rw [v5, v34, v32, v33, v57, hF 51 (by decide) (by decide), f0 52 (by decide) (by decide) (by decide), c0 52 (by decide)]
            refine ⟨by decide, fun i hi => by omega, Or.inr rfl, by omega, rfl, fun _ => ?_, ?_, i8, h51, i10⟩
            · have ed : ((d : Int)).toNat = d := by omega
              rw [ed]
              obtain ⟨k1, k2⟩ := mg_G_49 f0 hg.1 hg.2
              refine ⟨k1, k2, fun q hq => ?_⟩
              obtain ⟨u1, u2⟩ := hW q (by omega)
              rw [u2]
              omega
            · refine (hb_arr ?_ ?_ ?_).1 i7
              · rw [f0 0 (by decide) (by decide) (by decide)]
                exact c0 0 (by decide)
              · rw [f0 1 (by decide) (by decide) (by decide)]
                exact c0 1 (by decide)
              · rw [f0 2 (by decide) (by decide) (by decide)]
                exact c0 2 (by decide)
          | succ m ih =>
            intro i F hm hi hF hW
            have ei : ((i : Int)).toNat = i := by omega
            have wr : ∀ t0 : Int, (t0 = 0 ∨ t0 = 1) → wp_read_127 z25 F (i : Int) t0 (i : Int) P Q := by
              intro t0 h0
              refine ⟨by omega, fun G hG => ⟨by omega, fun H hH x hx => ?_⟩⟩
              have ex : x = ((i + 1 : Nat) : Int) := by omega
              rw [ex]
              refine ih (i + 1) H (by omega) (by omega) (fun k a b => by rw [hH, hb_s_other b, hG, hb_s_other a]; exact hF k a b) (fun q hq => ?_)
              have q49 : H 49 q = if q = i then t0 else F 49 q := by
                rw [hH, hb_s_other (by decide), hG, lq_s_fun]
                unfold hz_u
                rw [ei]
              have q50 : H 50 q = if q = i then 1 else F 50 q := by
                rw [hH, lq_s_fun]
                unfold hz_u
                rw [ei, hG, hb_s_other (by decide)]
              rw [q49, q50]
              split
              · exact ⟨h0, rfl⟩
              · exact hW q (by omega)
            have em : ((i : Int)).tmod 4 = (i : Int) % 4 := Int.tmod_eq_emod_of_nonneg (by omega)
            refine hP F _ ⟨⟨by omega, by omega⟩, fun c => by omega, fun _ => ⟨⟨by omega, by omega⟩, by rw [em]; exact ⟨by omega, by omega⟩, fun _ => wr 0 (Or.inl rfl), fun _ => wr 1 (Or.inr rfl)⟩⟩
        exact key _ 0 D rfl (by omega) (fun _ _ _ => rfl) (fun q hq => by omega)
      intro P hP
      have key : ∀ (m i : Nat) (F : Nat → Nat → Int), 4 - i = m → i ≤ 4 → (∀ k, k ≠ 51 → F k = C k) → (∀ s, F 51 s = 0 ∨ F 51 s = 1) → P F (i : Int) := by
        intro m
        induction m with
        | zero =>
          intro i F hm hi hF h51
          exact hP F _ ⟨⟨by omega, by omega⟩, fun _ => second F (fun k _ _ c => hF k c) h51, fun c => by omega⟩
        | succ m ih =>
          intro i F hm hi hF h51
          refine hP F _ ⟨⟨by omega, by omega⟩, fun c => by omega, fun _ => ⟨by omega, fun G hG x hx => ?_⟩⟩
          have ex : x = ((i + 1 : Nat) : Int) := by omega
          rw [ex]
          refine ih (i + 1) G (by omega) (by omega) (fun k a => by rw [hG, hb_s_other a]; exact hF k a) (fun s => ?_)
          rw [hG, lq_s_fun]
          unfold hz_u
          split
          · exact Or.inl rfl
          · exact h51 s
      exact key _ 0 C rfl (by omega) (fun _ _ => rfl) (fun s => by rw [c0 51 (by decide)]; exact i9 s)
    · have v : ∀ q, q ≠ 6 → q ≠ 35 → q ≠ 36 → (q < 45 ∨ 48 < q) → z26 q = z15 q := fun q a b c e => by rw [h26, lp_U_other a]; exact w1 q b c (by omega) (by omega) (by omega) (by omega)
      have v5 : z26 5 = 0 := by rw [v 5 (by decide) (by decide) (by decide) (by decide)]; exact g5
      refine hQ _ z26 C (kept z26 C hR v5 ?_ ?_ ?_ ?_) v5
      · rw [v 34 (by decide) (by decide) (by decide) (by decide)]
        exact g 34 (by decide) (by decide) (by decide) (by decide)
      · rw [v 32 (by decide) (by decide) (by decide) (by decide)]
        exact g 32 (by decide) (by decide) (by decide) (by decide)
      · rw [v 33 (by decide) (by decide) (by decide) (by decide)]
        exact g 33 (by decide) (by decide) (by decide) (by decide)
      · rw [v 57 (by decide) (by decide) (by decide) (by decide)]
        exact g 57 (by decide) (by decide) (by decide) (by decide)
  · rcases hr with ⟨h, -⟩ | h <;> omega
  · have v : ∀ q, q ≠ 6 → z27 q = z15 q := fun q a => by rw [hz27, lp_U_other a]
    have v5 : z27 5 = 0 := by rw [v 5 (by decide)]; exact g5
    refine hQ _ z27 B (kept z27 B (mz_R_refl d B) v5 ?_ ?_ ?_ ?_) v5
    · rw [v 34 (by decide)]
      exact g 34 (by decide) (by decide) (by decide) (by decide)
    · rw [v 32 (by decide)]
      exact g 32 (by decide) (by decide) (by decide) (by decide)
    · rw [v 33 (by decide)]
      exact g 33 (by decide) (by decide) (by decide) (by decide)
    · rw [v 57 (by decide)]
      exact g 57 (by decide) (by decide) (by decide) (by decide)
