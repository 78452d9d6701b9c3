section MR
variable {d : Nat} {B C σ σ' : Nat → Nat → Int} {F : List sp_F}
theorem mr_F_keep (h : mr_F d B σ F) (h3 : ∀ q j, 37 ≤ q → q ≤ 42 → j < F.length → C q j = B q j) (h4 : ∀ i, i < 9 * F.length → C 43 i = B 43 i ∧ C 44 i = B 44 i) (h1 : ∀ t, t < 2 → σ 1 t ≤ σ' 1 t) (hs : ∀ t s : Nat, t < 2 → s < 10 → (s : Int) < σ 1 t → σ' (14 + t) s = σ (14 + t) s ∧ pt C (20 * d + (10 * t + s)) (σ (14 + t) s).toNat = pt B (20 * d + (10 * t + s)) (σ (14 + t) s).toNat) : mr_F d C σ' F := by
  induction F with
  | nil => exact True.intro
  | cons f F ih =>
    obtain ⟨⟨a1, a2, a3, a4, a5, a6, a7⟩, a8⟩ := h
    have L : (f :: F).length = F.length + 1 := rfl
    refine ⟨⟨?_, ?_, ?_, ?_, ?_, a6, ?_⟩, ih a8 (fun q j q1 q2 hj => h3 q j q1 q2 (by omega)) (fun i hi => h4 i (by omega))⟩
    · rw [h3 37 _ (by decide) (by decide) (by omega)]; exact a1
    · rw [h3 38 _ (by decide) (by decide) (by omega)]; exact a2
    · rw [h3 40 _ (by decide) (by decide) (by omega)]; exact a3
    · rw [h3 41 _ (by decide) (by decide) (by omega)]; exact a4
    · rw [h3 42 _ (by decide) (by decide) (by omega)]; exact a5
    · rcases a7 with ⟨b1, b2, b3⟩ | ⟨b1, b2, b3, b4, b5, b6⟩
      · exact Or.inl ⟨b1, b2, mr_h_keep b3 (fun i _ hi => h4 _ (by omega))⟩
      · obtain ⟨c1, c2⟩ := hs _ _ b2 b4 b5
        have c3 := h1 _ b2
        exact Or.inr ⟨b1, b2, by rw [h3 39 _ (by decide) (by decide) (by omega)]; exact b3, b4, by omega, by rw [c1, c2]; exact b6⟩
theorem pc_keep {t : Nat} {p : List (Int × Int)} (ht : t < 2) (h : pc d B σ t p) (h1 : ∀ t, t < 2 → σ 1 t ≤ σ' 1 t) (hs : ∀ t s : Nat, t < 2 → s < 10 → (s : Int) < σ 1 t → σ' (14 + t) s = σ (14 + t) s ∧ pt C (20 * d + (10 * t + s)) (σ (14 + t) s).toNat = pt B (20 * d + (10 * t + s)) (σ (14 + t) s).toNat) : pc d C σ' t p := by
  rcases h with h | ⟨i, m, a1, a2, a3, a4, a5⟩
  · exact Or.inl h
  · obtain ⟨c1, c2⟩ := hs t i ht a1 a2
    have c3 := h1 t ht
    exact Or.inr ⟨i, m, a1, by omega, a3, a4, by rw [c1, c2]; exact a5⟩
theorem mr_w_keep {j : Nat} (h : mr_w d B σ j) (h20 : C 20 (400 * d + j) = B 20 (400 * d + j)) (h21 : C 21 (400 * d + j) = B 21 (400 * d + j)) (h24 : B 24 d ≤ C 24 d) (h22 : ∀ w : Nat, 8000 * d ≤ w → (w : Int) < ((8000 * d : Nat) : Int) + B 24 d → C 22 w = B 22 w ∧ C 23 w = B 23 w) (hq : ∀ t, t < 2 → σ' (22 + t) j = σ (22 + t) j) (h1 : ∀ t, t < 2 → σ 1 t ≤ σ' 1 t) (hs : ∀ t s : Nat, t < 2 → s < 10 → (s : Int) < σ 1 t → σ' (14 + t) s = σ (14 + t) s ∧ pt C (20 * d + (10 * t + s)) (σ (14 + t) s).toNat = pt B (20 * d + (10 * t + s)) (σ (14 + t) s).toNat) : mr_w d C σ' j := by
  obtain ⟨f, l, a1, a2, a3, a4, a5, a6⟩ := h
  refine ⟨f, l, by rw [h20]; exact a1, by rw [h21]; exact a2, a3, a4, by omega, fun t ht => ?_⟩
  have e : wl C t f l = wl B t f l := wl_keep (fun i hi => h22 (f + i) (by omega) (by omega))
  rw [e, hq t ht]
  exact ⟨(a6 t ht).1, pc_keep ht (a6 t ht).2 h1 hs⟩
/-- only counts and what lies behind the open nodes are changed -/
theorem mr_up (h : mr_B d B σ F) (hq : ∀ q, q ≠ 0 → σ' q = σ q) (h01 : σ' 0 1 = σ 0 1) (hc : mr_c d C σ') (hC : ∀ q, (26 ≤ q ∧ q ≤ 31) ∨ q = 17 ∨ q = 18 ∨ (20 ≤ q ∧ q ≤ 24) → C q = B q) (h3 : ∀ q j, 37 ≤ q → q ≤ 42 → j < F.length → C q j = B q j) (h4 : ∀ i, i < 9 * F.length → C 43 i = B 43 i ∧ C 44 i = B 44 i) : mr_B d C σ' F := by
  obtain ⟨-, a2, a3, a4, a5⟩ := h
  have ept : ∀ S n, pt C S n = pt B S n := fun S n => pt_keep (fun i _ => by rw [hC 30 (by decide), hC 31 (by decide)]; exact ⟨rfl, rfl⟩)
  have k1 : ∀ t, t < 2 → σ 1 t ≤ σ' 1 t := fun t _ => by rw [hq 1 (by decide)]; exact Int.le_refl _
  have k2 : ∀ t s : Nat, t < 2 → s < 10 → (s : Int) < σ 1 t → σ' (14 + t) s = σ (14 + t) s ∧ pt C (20 * d + (10 * t + s)) (σ (14 + t) s).toNat = pt B (20 * d + (10 * t + s)) (σ (14 + t) s).toNat := fun t s _ _ _ => ⟨by rw [hq _ (by omega)], ept _ _⟩
  refine ⟨hc, fun t ht => ?_, fun t ht => ?_, fun j hj => ?_, mr_F_keep a5 h3 h4 k1 k2⟩
  · rw [hC 26 (by decide), hq 1 (by decide)]
    exact a2 t ht
  · obtain ⟨b1, b2⟩ := a3 t ht
    rw [hq 1 (by decide)]
    refine ⟨b1, fun i hi => ?_⟩
    obtain ⟨c1, c2, c3, c4, c5, c6⟩ := b2 i hi
    rw [hC 27 (by decide), hC 28 (by decide), hC 29 (by decide), hq (10 + t) (by omega), hq (12 + t) (by omega), hq (14 + t) (by omega), hq (16 + t) (by omega), ept]
    exact ⟨c1, c2, c3, c4, c5, pc_keep ht c6 k1 k2⟩
  · rw [h01] at hj
    rw [hC 17 (by decide), hC 18 (by decide), hq 20 (by decide), hq 21 (by decide)]
    exact ⟨(a4 j hj).1, (a4 j hj).2.1, mr_w_keep (a4 j hj).2.2 (by rw [hC 20 (by decide)]) (by rw [hC 21 (by decide)]) (by rw [hC 24 (by decide)]; exact Int.le_refl _) (fun w _ _ => by rw [hC 22 (by decide), hC 23 (by decide)]; exact ⟨rfl, rfl⟩) (fun t ht => by rw [hq (22 + t) (by omega)]) k1 k2⟩
/-- an end more -/
theorem mr_end {top bot t b x y : Int} {e0 f0 : Nat} (h : mr_B d B σ F) (hm : ∀ j, j < F.length → 0 ≤ B 40 j ∧ B 40 j < 512) (ho : F.length ≤ 20) (hf : B 24 d = (f0 : Int)) (h24 : C 24 d = (f0 : Int) + go_a B F.length) (h20 : ∀ i, C 20 i = if i = 400 * d + e0 then ((8000 * d + f0 : Nat) : Int) else B 20 i) (h21 : ∀ i, C 21 i = if i = 400 * d + e0 then ((go_a B F.length : Nat) : Int) else B 21 i) (hout : ∀ w : Nat, (w < 8000 * d + f0 ∨ 8000 * d + f0 + go_a B F.length ≤ w) → C 22 w = B 22 w ∧ C 23 w = B 23 w) (hin : ∀ q, q < go_a B F.length → ∃ j, j < F.length ∧ B 38 j ≠ 63 ∧ go_a B j = q ∧ C 22 (8000 * d + f0 + q) = B 39 j ∧ C 23 (8000 * d + f0 + q) = B 40 j) (he : σ 0 1 = (e0 : Int)) (hC : ∀ k, k ≠ 14 → k ≠ 17 → k ≠ 18 → k ≠ 20 → k ≠ 21 → k ≠ 22 → k ≠ 23 → k ≠ 24 → C k = B k) (h14 : ∀ i, C 14 i = if i = d then (e0 : Int) + 1 else B 14 i) (h17 : ∀ i, C 17 i = if i = 400 * d + e0 then x else B 17 i) (h18 : ∀ i, C 18 i = if i = 400 * d + e0 then y else B 18 i) (hx : x = sp_q top (sp_g top b) * sp_q t (sp_g t bot)) (hy : y = sp_q bot (sp_g t bot) * sp_q b (sp_g top b)) : mr_B d C (sp_en σ top bot t b (sp_dd 0 F) (sp_dd 1 F)) F := by
  obtain ⟨⟨n1, n2, n3, n4⟩, a2, a3, a4, a5⟩ := h
  have e : ∀ k, 24 < k → C k = B k := fun k hk => hC k (by omega) (by omega) (by omega) (by omega) (by omega) (by omega) (by omega) (by omega)
  have ept : ∀ S n, pt C S n = pt B S n := fun S n => pt_keep (fun i _ => by rw [e 30 (by decide), e 31 (by decide)]; exact ⟨rfl, rfl⟩)
  have q1 : sp_en σ top bot t b (sp_dd 0 F) (sp_dd 1 F) 1 = σ 1 := sp_en_o (by decide) (by decide)
  have k1 : ∀ t', t' < 2 → σ 1 t' ≤ sp_en σ top bot t b (sp_dd 0 F) (sp_dd 1 F) 1 t' := fun t' _ => by rw [q1]; exact Int.le_refl _
  have k2 : ∀ t' s : Nat, t' < 2 → s < 10 → (s : Int) < σ 1 t' → sp_en σ top bot t b (sp_dd 0 F) (sp_dd 1 F) (14 + t') s = σ (14 + t') s ∧ pt C (20 * d + (10 * t' + s)) (σ (14 + t') s).toNat = pt B (20 * d + (10 * t' + s)) (σ (14 + t') s).toNat := fun t' s h2 _ _ => ⟨by rw [sp_en_o (by omega) (by omega)], ept _ _⟩
  obtain ⟨y1, y2, y3, y4⟩ := sp_en_x (σ := σ) top bot t b (sp_dd 0 F) (sp_dd 1 F)
  have et : (σ 0 1).toNat = e0 := by omega
  refine ⟨⟨?_, ?_, ?_, ?_⟩, fun t' ht => ?_, fun t' ht => ?_, fun j hj => ?_, mr_F_keep a5 (fun q j q1 _ _ => by rw [e q (by omega)]) (fun i _ => by rw [e 43 (by decide), e 44 (by decide)]; exact ⟨rfl, rfl⟩) k1 k2⟩
  · rw [hC 13 (by decide) (by decide) (by decide) (by decide) (by decide) (by decide) (by decide) (by decide), sp_en_0 (by decide)]
    exact n1
  · rw [h14, if_pos rfl, sp_en_1, he]
  · rw [hC 15 (by decide) (by decide) (by decide) (by decide) (by decide) (by decide) (by decide) (by decide), sp_en_0 (by decide)]
    exact n3
  · rw [hC 16 (by decide) (by decide) (by decide) (by decide) (by decide) (by decide) (by decide) (by decide), sp_en_0 (by decide)]
    exact n4
  · rw [e 26 (by decide), q1]
    exact a2 t' ht
  · obtain ⟨b1, b2⟩ := a3 t' ht
    rw [q1]
    refine ⟨b1, fun i hi => ?_⟩
    obtain ⟨c1, c2, c3, c4, c5, c6⟩ := b2 i hi
    rw [e 27 (by decide), e 28 (by decide), e 29 (by decide), sp_en_o (by omega) (by omega), sp_en_o (by omega) (by omega), sp_en_o (by omega) (by omega), sp_en_o (by omega) (by omega), ept]
    exact ⟨c1, c2, c3, c4, c5, pc_keep ht c6 k1 k2⟩
  · rw [sp_en_1] at hj
    by_cases ej : j = e0
    · rw [h17, h18, ej, if_pos rfl, if_pos rfl, ← et, y1, y2]
      refine ⟨hx, hy, 8000 * d + f0, go_a B F.length, by rw [h20, et, if_pos rfl], by rw [h21, et, if_pos rfl], by omega, by have := go_a_le B F.length; omega, by rw [h24]; omega, fun t' ht => ?_⟩
      have ew : wl C t' (8000 * d + f0) (go_a B F.length) = ol t' F := by
        rw [wl_ola hin F.length (Nat.le_refl _)]
        exact ola_ol a5
      rw [ew, ← sp_dd_ol]
      refine ⟨?_, pc_keep ht (pc_ol a5 hm) k1 k2⟩
      have e2 : t' = 0 ∨ t' = 1 := by omega
      rcases e2 with e2 | e2 <;> subst e2
      · exact y3
      · exact y4
    · rw [h17, h18, if_neg (by omega), if_neg (by omega), sp_en_i (by decide) (by omega), sp_en_i (by decide) (by omega)]
      refine ⟨(a4 j (by omega)).1, (a4 j (by omega)).2.1, mr_w_keep (a4 j (by omega)).2.2 (by rw [h20, if_neg (by omega)]) (by rw [h21, if_neg (by omega)]) (by rw [h24, hf]; omega) (fun w w1 w2 => hout w (Or.inl (by omega))) (fun t' ht => by rw [sp_en_i (by omega) (by omega)]) k1 k2⟩
/-- a new set begun: what lies of the others stays -/
theorem mr_new {t s : Nat} {told : Int} (ht : t < 2) (hs : σ 1 t = (s : Int)) (hs10 : s < 10) (hown : ∀ t i : Nat, t < 2 → (i : Int) < σ 1 t → σ (14 + t) i ≤ 20) (h : mr_c d B σ ∧ mr_n d B σ ∧ mr_s d B σ ∧ mr_e d B σ ∧ mr_F d B σ F) (hm : ∀ j, j < F.length → 0 ≤ B 40 j ∧ B 40 j < 512)
    (hcn : C 13 d = B 13 d ∧ C 14 d = B 14 d ∧ C 15 d = B 15 d) (h16 : C 16 d = B 16 d + 1) (h17 : C 17 = B 17 ∧ C 18 = B 18 ∧ ∀ q, 20 ≤ q → q ≤ 24 → C q = B q) (h26 : ∀ i, C 26 i = if i = 2 * d + t then (s : Int) + 1 else B 26 i) (h27 : ∀ i, C 27 i = if i = 20 * d + (10 * t + s) then told else B 27 i) (h28 : ∀ i, C 28 i = if i = 20 * d + (10 * t + s) then 0 else B 28 i) (h29 : ∀ i, i ≠ 20 * d + (10 * t + s) → C 29 i = B 29 i) (h29' : C 29 (20 * d + (10 * t + s)) = ((ol t F).length : Int)) (h30 : ∀ i, (i < 20 * (20 * d + (10 * t + s)) ∨ 20 * (20 * d + (10 * t + s)) + 20 ≤ i) → C 30 i = B 30 i ∧ C 31 i = B 31 i) (hpt : pt C (20 * d + (10 * t + s)) (ol t F).length = ol t F)
    (h3 : ∀ q j, 37 ≤ q → q ≤ 42 → j < F.length → C q j = B q j) (h4 : ∀ i, i < 9 * F.length → C 43 i = B 43 i ∧ C 44 i = B 44 i) :
    mr_B d C (hz_s (sp_ns σ t told (sp_dd t F)) 0 3 (σ 0 3 + 1)) F ∧ sp_ns σ t told (sp_dd t F) (14 + t) s = ((ol t F).length : Int) := by
  obtain ⟨⟨n1, n2, n3, n4⟩, a2, a3, a4, a5⟩ := h
  have es : (σ 1 t).toNat = s := by omega
  obtain ⟨x1, x2, x3, x4⟩ := sp_ns_x (σ := σ) ht told (sp_dd t F)
  obtain ⟨y1, y2⟩ := sp_ns_1 (σ := σ) ht told (sp_dd t F)
  rw [es] at x1 x2 x3 x4
  obtain ⟨σ1, e1⟩ : ∃ σ1, sp_ns σ t told (sp_dd t F) = σ1 := ⟨_, rfl⟩
  have i1 : ∀ q j, q ≠ 1 → j ≠ s → σ1 q j = σ q j := fun q j q1 hj => by rw [← e1]; exact sp_ns_i q1 (by omega)
  have o1 : ∀ q, q ≠ 1 → q ≠ 10 + t → q ≠ 12 + t → q ≠ 14 + t → q ≠ 16 + t → σ1 q = σ q := fun q a b c e f => by rw [← e1]; exact sp_ns_o a b c e f
  rw [e1] at x1 x2 x3 x4 y1 y2 ⊢
  have hq : ∀ q, q ≠ 0 → hz_s σ1 0 3 (σ 0 3 + 1) q = σ1 q := fun q hq => hz_s_a hq
  have pcF := pc_ol (t := t) a5 hm
  have own : σ1 (14 + t) s = ((ol t F).length : Int) := by
    rw [x3, sp_dd_ol]
    rcases pcF with e | ⟨i, m, b1, b2, b3, b4, b5⟩
    · rw [e]
      rfl
    · have hv : hdd t ((((10 * t + i : Nat) : Int), m) :: pt B (20 * d + (10 * t + i)) (σ (14 + t) i).toNat) = (i : Int) * 512 + m := by
        simp only [hdd]
        omega
      have c := ((a3 t ht).2 i b2).2.2.2.1
      rw [b5, hv, if_neg (by omega), List.length_cons, pt_len, show ((i : Int) * 512 + m) / 512 = (i : Int) by omega, show ((i : Int)).toNat = i by omega]
      omega
  have s1 : ∀ t' : Nat, t' < 2 → σ 1 t' ≤ σ1 1 t' := fun t' _ => by
    by_cases e : t' = t
    · rw [e, y1]; omega
    · rw [y2 t' e]; exact Int.le_refl _
  have keep : ∀ t' i : Nat, t' < 2 → i < 10 → (i : Int) < σ 1 t' → (20 * d + (10 * t' + i) ≠ 20 * d + (10 * t + s)) ∧ σ1 (14 + t') i = σ (14 + t') i ∧ pt C (20 * d + (10 * t' + i)) (σ (14 + t') i).toNat = pt B (20 * d + (10 * t' + i)) (σ (14 + t') i).toNat := by
    intro t' i ht' hi hl
    have ne : 20 * d + (10 * t' + i) ≠ 20 * d + (10 * t + s) := by
      intro e
      have e2 : t' = t := by omega
      rw [e2] at hl
      omega
    have ow := hown t' i ht' hl
    refine ⟨ne, ?_, pt_keep (fun q hq => h30 _ (by omega))⟩
    by_cases e : t' = t
    · exact i1 _ _ (by omega) (by rw [e] at hl; omega)
    · rw [o1 _ (by omega) (by omega) (by omega) (by omega) (by omega)]
  have kk : ∀ t' i : Nat, t' < 2 → i < 10 → (i : Int) < σ 1 t' → hz_s σ1 0 3 (σ 0 3 + 1) (14 + t') i = σ (14 + t') i ∧ pt C (20 * d + (10 * t' + i)) (σ (14 + t') i).toNat = pt B (20 * d + (10 * t' + i)) (σ (14 + t') i).toNat := fun t' i ht' hi hl => by rw [hq _ (by omega)]; exact (keep t' i ht' hi hl).2
  have k1 : ∀ t', t' < 2 → σ 1 t' ≤ hz_s σ1 0 3 (σ 0 3 + 1) 1 t' := fun t' ht' => by rw [hq 1 (by decide)]; exact s1 t' ht'
  have o0 : ∀ j, σ1 0 j = σ 0 j := fun j => by rw [o1 0 (by decide) (by omega) (by omega) (by omega) (by omega)]
  refine ⟨⟨⟨?_, ?_, ?_, ?_⟩, fun t' ht' => ?_, fun t' ht' => ?_, fun j hj => ?_, mr_F_keep a5 h3 h4 k1 kk⟩, own⟩
  · rw [hz_s_i (by decide), o0, hcn.1]; exact n1
  · rw [hz_s_i (by decide), o0, hcn.2.1]; exact n2
  · rw [hz_s_i (by decide), o0, hcn.2.2]; exact n3
  · have q := hz_s_same (A := σ1) 0 3 (σ 0 3 + 1)
    rw [h16, n4]
    exact q.symm
  · rw [hq 1 (by decide), h26]
    by_cases e : t' = t
    · rw [e, if_pos rfl, y1, hs]
    · rw [if_neg (by omega), y2 t' e]
      exact a2 t' ht'
  · obtain ⟨b1, b2⟩ := a3 t' ht'
    rw [hq 1 (by decide), hq (10 + t') (by omega), hq (12 + t') (by omega), hq (14 + t') (by omega), hq (16 + t') (by omega)]
    have old : ∀ i : Nat, (i : Int) < σ 1 t' → C 27 (20 * d + (10 * t' + i)) = σ1 (10 + t') i ∧ C 28 (20 * d + (10 * t' + i)) = σ1 (12 + t') i ∧ C 29 (20 * d + (10 * t' + i)) = σ1 (14 + t') i ∧ 0 ≤ σ1 (14 + t') i ∧ σ1 (16 + t') i = hdd t' (pt C (20 * d + (10 * t' + i)) (σ1 (14 + t') i).toNat) ∧ pc d C (hz_s σ1 0 3 (σ 0 3 + 1)) t' (pt C (20 * d + (10 * t' + i)) (σ1 (14 + t') i).toNat) := by
      intro i hi
      obtain ⟨c1, c2, c3, c4, c5, c6⟩ := b2 i hi
      obtain ⟨f1, f2, f3⟩ := keep t' i ht' (by omega) hi
      have ik : ∀ q, (q = 10 + t' ∨ q = 12 + t' ∨ q = 16 + t') → σ1 q i = σ q i := fun q hq' => by
        by_cases e : t' = t
        · exact i1 _ _ (by omega) (by rw [e] at hi; omega)
        · rw [o1 _ (by omega) (by omega) (by omega) (by omega) (by omega)]
      rw [h27, h28, h29 _ f1, if_neg f1, if_neg f1, ik _ (Or.inl rfl), ik _ (Or.inr (Or.inl rfl)), ik _ (Or.inr (Or.inr rfl)), f2, f3]
      exact ⟨c1, c2, c3, c4, c5, pc_keep ht' c6 k1 kk⟩
    by_cases e : t' = t
    · subst e
      rw [y1]
      refine ⟨by omega, fun i hi => ?_⟩
      by_cases ei : i = s
      · subst ei
        rw [h27, h28, h29', if_pos rfl, if_pos rfl, x1, x2, own, show (((ol t' F).length : Int)).toNat = (ol t' F).length by omega, hpt]
        refine ⟨rfl, rfl, rfl, by omega, ?_, pc_keep ht' pcF k1 kk⟩
        rw [x4, sp_dd_ol]
      · exact old i (by omega)
    · rw [y2 t' e]
      exact ⟨b1, old⟩
  · rw [hz_s_i (by decide), o0] at hj
    rw [hq 20 (by decide), hq 21 (by decide), o1 20 (by decide) (by omega) (by omega) (by omega) (by omega), o1 21 (by decide) (by omega) (by omega) (by omega) (by omega), h17.1, h17.2.1]
    have h9 := h17.2.2
    exact ⟨(a4 j hj).1, (a4 j hj).2.1, mr_w_keep (a4 j hj).2.2 (by rw [h9 20 (by decide) (by decide)]) (by rw [h9 21 (by decide) (by decide)]) (by rw [h9 24 (by decide) (by decide)]; exact Int.le_refl _) (fun w _ _ => by rw [h9 22 (by decide) (by decide), h9 23 (by decide) (by decide)]; exact ⟨rfl, rfl⟩) (fun t' ht' => by rw [hq (22 + t') (by omega), o1 (22 + t') (by omega) (by omega) (by omega) (by omega) (by omega)]) k1 kk⟩
/-- a set's moves told -/
theorem mr_mv {t i : Nat} {m : Int} (h : mr_B d B σ F) (ht : t < 2) (hi : i < 10) (hC : ∀ k, k ≠ 28 → C k = B k) (h28 : ∀ j, C 28 j = if j = 20 * d + (10 * t + i) then m else B 28 j) : mr_B d C (hz_s σ (12 + t) (i : Int) m) F := by
  obtain ⟨⟨n1, n2, n3, n4⟩, a2, a3, a4, a5⟩ := h
  have hq : ∀ q, q ≠ 12 + t → hz_s σ (12 + t) (i : Int) m q = σ q := fun q hq => hz_s_a hq
  have ept : ∀ S n, pt C S n = pt B S n := fun S n => pt_keep (fun i _ => by rw [hC 30 (by decide), hC 31 (by decide)]; exact ⟨rfl, rfl⟩)
  have k1 : ∀ t', t' < 2 → σ 1 t' ≤ hz_s σ (12 + t) (i : Int) m 1 t' := fun t' _ => by rw [hq 1 (by omega)]; exact Int.le_refl _
  have k2 : ∀ t' s : Nat, t' < 2 → s < 10 → (s : Int) < σ 1 t' → hz_s σ (12 + t) (i : Int) m (14 + t') s = σ (14 + t') s ∧ pt C (20 * d + (10 * t' + s)) (σ (14 + t') s).toNat = pt B (20 * d + (10 * t' + s)) (σ (14 + t') s).toNat := fun t' s h2 _ _ => ⟨by rw [hq _ (by omega)], ept _ _⟩
  have ei : ((i : Int)).toNat = i := by omega
  refine ⟨⟨?_, ?_, ?_, ?_⟩, fun t' ht' => ?_, fun t' ht' => ?_, fun j hj => ?_, mr_F_keep a5 (fun q j q1 _ _ => by rw [hC q (by omega)]) (fun i _ => by rw [hC 43 (by decide), hC 44 (by decide)]; exact ⟨rfl, rfl⟩) k1 k2⟩
  · rw [hC 13 (by decide), hq 0 (by omega)]; exact n1
  · rw [hC 14 (by decide), hq 0 (by omega)]; exact n2
  · rw [hC 15 (by decide), hq 0 (by omega)]; exact n3
  · rw [hC 16 (by decide), hq 0 (by omega)]; exact n4
  · rw [hC 26 (by decide), hq 1 (by omega)]
    exact a2 t' ht'
  · obtain ⟨b1, b2⟩ := a3 t' ht'
    rw [hq 1 (by omega)]
    refine ⟨b1, fun j hj => ?_⟩
    obtain ⟨c1, c2, c3, c4, c5, c6⟩ := b2 j hj
    rw [hC 27 (by decide), hC 29 (by decide), hq (10 + t') (by omega), hq (14 + t') (by omega), hq (16 + t') (by omega), ept]
    refine ⟨c1, ?_, c3, c4, c5, pc_keep ht' c6 k1 k2⟩
    rw [h28]
    by_cases e : t' = t ∧ j = i
    · rw [e.1, e.2, if_pos rfl]
      have q := hz_s_same (A := σ) (12 + t) (i : Int) m
      rw [ei] at q
      exact q.symm
    · rw [if_neg (by omega)]
      by_cases e2 : t' = t
      · rw [e2, hz_s_i (by rw [ei]; exact fun q => e ⟨e2, q⟩), ← e2]
        exact c2
      · rw [hq _ (by omega)]
        exact c2
  · rw [hq 0 (by omega)] at hj
    rw [hC 17 (by decide), hC 18 (by decide), hq 20 (by omega), hq 21 (by omega)]
    exact ⟨(a4 j hj).1, (a4 j hj).2.1, mr_w_keep (a4 j hj).2.2 (by rw [hC 20 (by decide)]) (by rw [hC 21 (by decide)]) (by rw [hC 24 (by decide)]; exact Int.le_refl _) (fun w _ _ => by rw [hC 22 (by decide), hC 23 (by decide)]; exact ⟨rfl, rfl⟩) (fun t' ht' => by rw [hq (22 + t') (by omega)]) k1 k2⟩
end MR
