theorem sp_len {d e k d' e' : Int} {st st' : List Int} {p q : Nat} (s : cq_s d st e k d' st' e') (h : 2 * st.length + (if d = 3 ∨ d = 4 then 1 else 0) ≤ p) (hq : p < q) : 2 * st'.length + (if d' = 3 ∨ d' = 4 then 1 else 0) ≤ q := by
  rcases s with s | s | s | s | s | s | s | s | s | s | s | s | s | s
  · rw [s.2.2.2.1]; split <;> split at h <;> omega
  · rw [s.2.2.2.1]; split <;> split at h <;> omega
  · rw [s.2.2.2.1]; split <;> split at h <;> omega
  · rw [s.2.2.2.1]; split <;> split at h <;> omega
  · rw [s.2.2.2.1, List.length_cons]; split <;> split at h <;> omega
  · rw [s.2.2.2.1, List.length_cons]; split <;> split at h <;> omega
  · rw [s.2.2.2.1]; split <;> split at h <;> omega
  · rw [s.2.2.2.1]; split <;> split at h <;> omega
  · rw [s.2.2.2.1]; split <;> split at h <;> omega
  · rw [s.2.2.2.1]; split <;> split at h <;> omega
  · rw [s.2.2.2.2.1]; split <;> split at h <;> omega
  · rw [s.2.2.2.2.1]; split <;> split at h <;> omega
  · obtain ⟨x, hx⟩ := s.2.2.1
    rw [hx, List.length_cons] at h
    split <;> split at h <;> omega
  · rw [s.2.2.1]; split <;> split at h <;> omega
section CO
variable {L : List Nat} {K : Nat → cw_K} {r : Nat → Nat → Nat} {z A : Nat → Nat → Int} {R : Nat}
theorem wv_c5_dueInNode {k e : Int} {st : List Int} (hO : cw_O L K 5 R) (hk : hz_rI k) (M : cq_m r z A R st e) (hb : ∀ i, A (r R 4) i = 0 ∨ A (r R 4) i = 1) {Q : Int → (Nat → Nat → Int) → Prop} (h1 : ∀ (d' e' : Int) (z' : Nat → Nat → Int), cq_s 1 st e k d' st e' → (1 ≤ d' ∧ d' ≤ 10) → cq_m r z' A R st e' → cq_g r z A z' A R → Q d' z') (h0 : ¬ (k = 91 ∨ k = 63 ∨ k = 65 ∨ k = 66) → ∀ z', cq_g r z A z' A R → Q 0 z') : wp_c5_dueInNode L K z r A R k Q := by
  have main : ∀ t : Int, (t = 0 ∨ t = 1) → (t = 1 ↔ k = 91) → wp_c5_dueInNode_12 L K z r A k t R Q := by
    intro t ht hkt
    refine ⟨hO, ht, fun z1 e1 => ?_⟩
    have G : cq_g r z A z1 A R := ⟨fun a ha => by rw [e1, cw_s_a ha], fun j _ j6 => by rw [e1, cw_s_k j6], fun _ _ => rfl, hb⟩
    have M1 : cq_m r z1 A R st t := ⟨by rw [e1, cw_s_k (by decide)]; exact M.1, M.2.1, by rw [e1, cw_s_same], ht, M.2.2.2.2⟩
    have s2 : (k = 65 ∨ k = 66) → wp_c5_dueInNode_64 L K z1 r A Q := fun c => h1 2 t z1 (cq_c2 ⟨rfl, c, rfl, rfl, by omega⟩) (by decide) M1 G
    exact ⟨hk, fun c => h1 4 t z1 (cq_c1 ⟨rfl, c, rfl, rfl, by omega⟩) (by decide) M1 G, fun c1 => ⟨fun c => s2 (Or.inl c), fun c2 => ⟨fun c => s2 (Or.inr c), fun c3 => ⟨fun c => h1 5 t z1 (cq_c0 ⟨rfl, c, rfl, rfl, by omega⟩) (by decide) M1 G, fun c4 => h0 (by omega) z1 G⟩⟩⟩⟩
  exact ⟨hk, fun c => main 0 (by omega) (by omega), fun c => main 1 (by omega) (by omega)⟩
theorem wv_c5_openBracket {v e : Int} {st : List Int} (hO : cw_O L K 5 R) (hA : cw_A L K 3 (r R 4)) (hn : cw_n K (r R 4) = 2000) (hv : v = 0 ∨ v = 1) (M : cq_m r z A R st e) (hb : ∀ i, A (r R 4) i = 0 ∨ A (r R 4) i = 1) {Q : Int → (Nat → Nat → Int) → (Nat → Nat → Int) → Prop} (h1 : ∀ (d' : Int) (z' A' : Nat → Nat → Int), ((v = 0 ∧ d' = 1) ∨ (v = 1 ∧ d' = 5)) → cq_m r z' A' R (v :: st) e → cq_g r z A z' A' R → Q d' z' A') (h0 : st.length < 2000) : wp_c5_openBracket L K z r A R v Q := by
  obtain ⟨m1, m2, m3, m4, m5⟩ := M
  refine ⟨hO, hA, by omega, by omega, fun c => ⟨by omega, hv, fun A1 e1 z1 ez => ?_⟩, fun c => by omega⟩
  have len : st.length < 2000 := by omega
  have et : (z R 5).toNat = st.length := by omega
  have M1 : cq_m r z1 A1 R (v :: st) e := by
    refine ⟨by rw [ez, cw_s_same, m1]; simp only [List.length_cons]; omega, ⟨?_, hv, cq_t_keep (fun i hi => ?_) m2⟩, by rw [ez, cw_s_k (by decide)]; exact m3, m4, by simp only [List.length_cons]; omega⟩
    · have := hz_s_same (A := A) (r R 4) (z R 5) v
      rw [et] at this
      rw [e1]
      exact this
    · rw [e1, hz_s_i (by omega)]
  have G : cq_g r z A z1 A1 R := by
    refine ⟨fun a ha => by rw [ez, cw_s_a ha], fun j j5 _ => by rw [ez, cw_s_k j5], fun a ha => by rw [e1, hz_s_a ha], fun i => ?_⟩
    by_cases hi : i = (z R 5).toNat
    · rw [e1, hi, hz_s_same]; exact hv
    · rw [e1, hz_s_i hi]; exact hb i
  exact ⟨by omega, fun c2 => h1 1 z1 A1 (Or.inl ⟨c2, rfl⟩) M1 G, fun c2 => h1 5 z1 A1 (Or.inr ⟨by omega, rfl⟩) M1 G⟩
theorem wv_c5_dueBehindFraction {k e : Int} {st : List Int} (hO : cw_O L K 5 R) (hk : hz_rI k) (M : cq_m r z A R st e) (hb : ∀ i, A (r R 4) i = 0 ∨ A (r R 4) i = 1) {Q : Int → (Nat → Nat → Int) → Prop} (h1 : ∀ (d' : Int) (z' : Nat → Nat → Int), ((k = 93 ∧ ¬ e = 0 ∧ d' = 10) ∨ (k = 58 ∧ e = 0 ∧ d' = 1)) → cq_m r z' A R st 0 → cq_g r z A z' A R → Q d' z') (h0 : ¬ ((k = 93 ∧ ¬ e = 0) ∨ (k = 58 ∧ e = 0)) → Q 0 z) : wp_c5_dueBehindFraction L K z r A R k Q := by
  obtain ⟨m1, m2, m3, m4, m5⟩ := M
  have last : ∀ t : Int, ((k = 93 ∧ ¬ e = 0 ∧ t = 10) ∨ (k = 58 ∧ e = 0 ∧ t = 1)) → wp_c5_dueBehindFraction_33 L K z r A R t Q := by
    intro t ht
    refine ⟨hO, fun z1 e1 => h1 t z1 ht ⟨by rw [e1, cw_s_k (by decide)]; exact m1, m2, by rw [e1, cw_s_same], Or.inl rfl, m5⟩ ⟨fun a ha => by rw [e1, cw_s_a ha], fun j _ j6 => by rw [e1, cw_s_k j6], fun _ _ => rfl, hb⟩⟩
  exact ⟨hO, by omega, fun c => ⟨hk, by omega, fun c2 => ⟨hO, by omega, fun c3 => last 1 (by omega), fun c3 => absurd c c3⟩, fun c2 => h0 (by omega)⟩, fun c => ⟨hk, by omega, fun c2 => ⟨hO, by omega, fun c3 => absurd c3 c, fun c3 => last 10 (by omega)⟩, fun c2 => h0 (by omega)⟩⟩
theorem wv_c5_dueBehindNode {k e : Int} {st : List Int} (hO : cw_O L K 5 R) (hA : cw_A L K 3 (r R 4)) (hn : cw_n K (r R 4) = 2000) (hk : hz_rI k) (M : cq_m r z A R st e) (hb : ∀ i, A (r R 4) i = 0 ∨ A (r R 4) i = 1) {Q : Int → (Nat → Nat → Int) → Prop} (h1 : ∀ (d' : Int) (st' : List Int) (z' : Nat → Nat → Int), cq_s 10 st e k d' st' e → (1 ≤ d' ∧ d' ≤ 10) → cq_m r z' A R st' e → cq_g r z A z' A R → Q d' z') (h0 : (k = 41 ∨ k = 44 → st = []) → Q 0 z) : wp_c5_dueBehindNode L K z r A R k Q := by
  have M0 := M
  obtain ⟨m1, m2, m3, m4, m5⟩ := M
  cases st with
  | nil =>
    have l0 : z R 5 = 0 := by rw [m1]; rfl
    exact ⟨hO, by omega, fun _ => ⟨hO, by omega, fun _ => h0 (fun _ => rfl), fun c => by omega⟩, fun c => by omega⟩
  | cons x t =>
    obtain ⟨y1, y2, y3⟩ := m2
    simp only [List.length_cons] at m1 m5
    have et : (z R 5 - 1).toNat = t.length := by omega
    have rx : A (r R 4) (z R 5 - 1).toNat = x := by rw [et]; exact y1
    have tail : ¬ k = 41 → wp_c5_dueBehindNode_26 L K z r A R k Q := by
      intro c41
      refine ⟨hO, by omega, fun c => by omega, fun _ => ⟨hk, fun c44 => h0 (fun q => by omega), fun c => ⟨hA, by omega, by omega, fun c2 => ?_, fun c2 => ?_⟩⟩⟩
      · exact h1 1 (x :: t) z (cq_c13 ⟨rfl, c, rfl, rfl, Or.inl ⟨⟨t, by rw [show x = 0 by omega]⟩, rfl⟩⟩) (by decide) M0 (cq_g_refl hb)
      · exact h1 5 (x :: t) z (cq_c13 ⟨rfl, c, rfl, rfl, Or.inr ⟨⟨t, by rw [show x = 1 by omega]⟩, rfl⟩⟩) (by decide) M0 (cq_g_refl hb)
    refine ⟨hO, by omega, fun c => by omega, fun _ => ⟨hk, fun c41 => tail c41, fun c z1 e1 => ?_⟩⟩
    exact h1 10 t z1 (cq_c12 ⟨rfl, c, ⟨x, rfl⟩, rfl, rfl⟩) (by decide) ⟨by rw [e1, cw_s_same, m1]; omega, y3, by rw [e1, cw_s_k (by decide)]; exact m3, m4, by omega⟩ ⟨fun a ha => by rw [e1, cw_s_a ha], fun j j5 _ => by rw [e1, cw_s_k j5], fun _ _ => rfl, hb⟩
theorem wv_c5_dueBehind {d e : Int} {st : List Int} (hO : cw_O L K 5 R) (hW : cw_O L K 10 (r R 2)) (hA : cw_A L K 3 (r R 4)) (hn : cw_n K (r R 4) = 2000) (hk : hz_rI (z (r R 2) 2)) (hd : 1 ≤ d ∧ d ≤ 10) (M : cq_m r z A R st e) (hb : ∀ i, A (r R 4) i = 0 ∨ A (r R 4) i = 1) {Q : Int → (Nat → Nat → Int) → (Nat → Nat → Int) → Prop} (h1 : ∀ (d' : Int) (st' : List Int) (e' : Int) (z' A' : Nat → Nat → Int), cq_s d st e (z (r R 2) 2) d' st' e' → (1 ≤ d' ∧ d' ≤ 10) → cq_m r z' A' R st' e' → cq_g r z A z' A' R → Q d' z' A') (hl : d = 3 ∨ d = 4 → st.length < 2000) (h0 : (∀ d' st' e', ¬ cq_s d st e (z (r R 2) 2) d' st' e') → ∀ z' A', cq_g r z A z' A' R → Q 0 z' A') : wp_c5_dueBehind L K z r A R d Q := by
  have G0 : cq_g r z A z A R := cq_g_refl hb
  have N0 : (∀ d' st' e', ¬ cq_s d st e (z (r R 2) 2) d' st' e') → Q 0 z A := fun q => h0 q z A G0
  have nf : ¬ ((z (r R 2) 2 = 93 ∧ ¬ e = 0) ∨ (z (r R 2) 2 = 58 ∧ e = 0)) → ∀ d' st' e', ¬ cq_s 9 st e (z (r R 2) 2) d' st' e' := fun q d' st' e' s => by
    obtain ⟨-, -, s⟩ := cq_9 s
    omega
  have fr : (d = 7 ∨ d = 9) → ∀ (d' : Int) (z' : Nat → Nat → Int), ((z (r R 2) 2 = 93 ∧ ¬ e = 0 ∧ d' = 10) ∨ (z (r R 2) 2 = 58 ∧ e = 0 ∧ d' = 1)) → cq_m r z' A R st 0 → cq_g r z A z' A R → Q d' z' A := by
    intro hd' d' z' h m g
    rcases h with ⟨a1, a2, a3⟩ | ⟨a1, a2, a3⟩
    · exact h1 d' st 0 z' A (cq_c10 ⟨hd', a1, a2, a3, rfl, rfl⟩) (by omega) m g
    · exact h1 d' st 0 z' A (cq_c11 ⟨hd', a1, a2, a3, rfl, rfl⟩) (by omega) m g
  refine ⟨hO, hW, fun k ek => ?_⟩
  subst ek
  refine ⟨by omega, fun c => ?_, fun c1 => ⟨fun c => ?_, fun c2 => ⟨fun c => ?_, fun c3 => ⟨fun c => ?_, fun c4 => ⟨fun c => ?_, fun c5 => ⟨fun c => ?_, fun c6 => ⟨fun c => ?_, fun c7 => ⟨fun c => ?_, fun c8 => ⟨fun c => ?_, fun c9 => ?_⟩⟩⟩⟩⟩⟩⟩⟩⟩
  · subst c
    exact wv_c5_dueInNode hO hk M hb (fun d' e' z' s a m g => h1 d' st e' z' A s a m g) (fun q z' g => h0 (fun d' st' e' s => by obtain ⟨-, s⟩ := cq_1 s; omega) z' A g)
  · exact ⟨hk, fun q => N0 (fun d' st' e' s => by rw [c] at s; obtain ⟨-, -, s, -⟩ := cq_2 s; exact q s), fun q => h1 3 st e z A (cq_c3 ⟨c, q, rfl, rfl, rfl⟩) (by decide) M G0⟩
  · refine ⟨hk, fun q => N0 (fun d' st' e' s => by rw [c] at s; obtain ⟨-, -, s, -⟩ := cq_3 s; exact q s), fun q => ?_⟩
    exact wv_c5_openBracket hO hA hn (Or.inl rfl) M hb (fun d' z' A' hd' m g => h1 d' (0 :: st) e z' A' (cq_c4 ⟨c, q, by omega, rfl, rfl⟩) (by omega) m g) (hl (Or.inl c))
  · refine ⟨hk, fun q => N0 (fun d' st' e' s => by rw [c] at s; obtain ⟨-, -, s, -⟩ := cq_4 s; exact q s), fun q => ?_⟩
    exact wv_c5_openBracket hO hA hn (Or.inr rfl) M hb (fun d' z' A' hd' m g => h1 d' (1 :: st) e z' A' (cq_c5 ⟨c, q, by omega, rfl, rfl⟩) (by omega) m g) (hl (Or.inr c))
  · exact ⟨hk, fun q45 => ⟨hk, fun q => N0 (fun d' st' e' s => by rw [c] at s; obtain ⟨-, -, s⟩ := cq_5 s; omega), fun q => h1 7 st e z A (cq_c7 ⟨Or.inl c, q, rfl, rfl, rfl⟩) (by decide) M G0⟩, fun q => h1 6 st e z A (cq_c6 ⟨c, q, rfl, rfl, rfl⟩) (by decide) M G0⟩
  · exact ⟨hk, fun q => N0 (fun d' st' e' s => by rw [c] at s; obtain ⟨-, -, s, -⟩ := cq_6 s; exact q s), fun q => h1 7 st e z A (cq_c7 ⟨Or.inr c, q, rfl, rfl, rfl⟩) (by decide) M G0⟩
  · exact ⟨hk, fun q47 => wv_c5_dueBehindFraction hO hk M hb (fr (Or.inl c)) (fun q => N0 (fun d' st' e' s => by
      rw [c] at s
      rcases cq_7 s with ⟨s, -⟩ | ⟨-, s⟩
      · exact q47 s
      · exact nf q _ _ _ s)), fun q => h1 8 st e z A (cq_c8 ⟨c, q, rfl, rfl, rfl⟩) (by decide) M G0⟩
  · exact ⟨hk, fun q => N0 (fun d' st' e' s => by rw [c] at s; obtain ⟨-, -, s, -⟩ := cq_8 s; exact q s), fun q => h1 9 st e z A (cq_c9 ⟨c, q, rfl, rfl, rfl⟩) (by decide) M G0⟩
  · exact wv_c5_dueBehindFraction hO hk M hb (fr (Or.inr c)) (fun q => N0 (fun d' st' e' s => by rw [c] at s; exact nf q _ _ _ s))
  · have d10 : d = 10 := by omega
    subst d10
    exact wv_c5_dueBehindNode hO hA hn hk M hb (fun d' st' z' s a m g => h1 d' st' e z' A s a m g) (fun q => N0 (fun d' st' e' s => by
      obtain ⟨-, s⟩ := cq_10 s
      rcases s with ⟨s1, ⟨x, s2⟩, -⟩ | ⟨s1, -, ⟨⟨t, s2⟩, -⟩ | ⟨⟨t, s2⟩, -⟩⟩
      · rw [q (Or.inl s1)] at s2
        exact absurd s2 (by simp)
      · rw [q (Or.inr s1)] at s2
        exact absurd s2 (by simp)
      · rw [q (Or.inr s1)] at s2
        exact absurd s2 (by simp)))
theorem wv_c5_isOne {T9 : sp_T} {ps : Nat → Nat} {nt : Nat} (TK : tk_T (A (r (r R 2) 0)) (z (r R 2) 1).toNat T9 ps nt) {b q : Nat} (hO : cw_O L K 5 R) (hW : cw_O L K 10 (r R 2)) (hA : cw_A L K 3 (r R 4)) (hn : cw_n K (r R 4) = 2000) (T : cl_T L K r z A (r R 2)) (hb : ∀ i, A (r R 4) i = 0 ∨ A (r R 4) i = 1) (w3 : z (r R 2) 3 = (b : Int)) (w5 : z (r R 2) 5 = (q : Int)) (hR : cl_R (A (r (r R 2) 0)) (z (r R 2) 1).toNat 0 (z (r R 2) 2) b q) (hk : hz_rI (z (r R 2) 2)) {Q : Int → (Nat → Nat → Int) → (Nat → Nat → Int) → Prop} (h1 : ∀ z' A', cq_f L K r z A z' A' R → cq_A (A (r (r R 2) 0)) (z (r R 2) 1).toNat 1 [] 0 0 → (∃ k, sp_ok T9.1 k) → Q 1 z' A') (h0 : ∀ z' A', cq_f L K r z A z' A' R → (∃ k, sp_no T9.1 k ∧ z' (r R 2) 3 = T9.2.1 k) → Q 0 z' A') : wp_c5_isOne L K z r A R Q := by
  have hne : r R 2 ≠ R := cw_O_ne hW hO (by decide)
  have hax : r (r R 2) 0 ≠ r R 4 := by
    intro e
    have t2 := T.2.1
    rw [e] at t2
    have := cw_A_ne t2 hA
    omega
  have t4 := T.2.2.2.1
  refine ⟨hO, fun z1 e1 z2 e2 => ?_⟩
  intro P hP
  have key : ∀ (m kk p : Nat) (z3 A3 : Nat → Nat → Int) (d x : Int) (st : List Int) (e : Int) (b q : Nat), p = ps kk → kk < nt → sp_au T9.1 kk d st e → (2 * st.length + (if d = 3 ∨ d = 4 then 1 else 0) ≤ p) → 4001 ≤ p + m → (0 ≤ x ∧ x ≤ (p : Int)) → (1 ≤ d ∧ d ≤ 10) → cq_m r z3 A3 R st e → cq_f L K r z A z3 A3 R → z3 (r R 2) 3 = (b : Int) → z3 (r R 2) 5 = (q : Int) → cl_R (A (r (r R 2) 0)) (z (r R 2) 1).toNat p (z3 (r R 2) 2) b q → hz_rI (z3 (r R 2) 2) → (cq_A (A (r (r R 2) 0)) (z (r R 2) 1).toNat d st e p → cq_A (A (r (r R 2) 0)) (z (r R 2) 1).toNat 1 [] 0 0) → P z3 A3 d x := by
    intro m
    induction m with
    | zero =>
      intro kk p z3 A3 d x st e b q hp hkk hau hst hm hx hd M F w3 w5 hR hk hacc
      obtain ⟨g1, g2, -⟩ := hR
      omega
    | succ m ih =>
      intro kk p z3 A3 d x st e b q hp hkk hau hst hm hx hd M F w3 w5 hR hk hacc
      obtain ⟨g1, g2, g3, g4, g5⟩ := id hR
      obtain ⟨f1, f2, f3, f4, f5, f6, f7⟩ := id F
      have cA : A3 (r (r R 2) 0) = A (r (r R 2) 0) := f3 _ hax
      obtain ⟨bb, tb1, tb2, tb3, tb4, tb5⟩ := TK.2.2 kk hkk
      rw [← hp] at tb1
      obtain ⟨u1, u2, u3⟩ := cl_R_uniq hR tb1
      have w3' : z3 (r R 2) 3 = T9.2.1 kk := by rw [w3, tb2, u2]
      refine hP z3 A3 d x ⟨by omega, fun c => by omega, fun _ => ⟨hO, hW, hk, fun c => ?_, fun c => ?_⟩⟩
      · refine ⟨by omega, fun nd => ⟨Or.inl rfl, h0 z3 A3 F ⟨kk, ⟨d, st, e, hau, Or.inl ⟨by rw [← u1]; exact c, fun q => nd q.1⟩⟩, w3'⟩⟩, fun c1 => ⟨hO, by have := M.1; have := M.2.2.2.2; omega, fun ns => ⟨Or.inl rfl, h0 z3 A3 F ⟨kk, ⟨d, st, e, hau, Or.inl ⟨by rw [← u1]; exact c, fun q => ns (by rw [M.1, q.2]; rfl)⟩⟩, w3'⟩⟩, fun c2 => ⟨Or.inr rfl, h1 z3 A3 F (hacc ?_) ⟨kk, e, ?_, by rw [← u1]; exact c⟩⟩⟩⟩
        all_goals
          have st0 : st = [] := by
            have := M.1
            cases st with
            | nil => rfl
            | cons y t => simp only [List.length_cons] at this; omega
        · rw [st0, c1]
          rw [c] at hR
          exact cq_A_over hR
        · rw [← c1, ← st0]
          exact hau
      · have pq : p < q := by
          rcases g5 with a | a | a
          · omega
          · omega
          · omega
        have qn : q ≤ (z (r R 2) 1).toNat := by
          rcases g5 with a | a | a
          · omega
          · omega
          · omega
        refine wv_c5_dueBehind hO hW hA hn hk hd M f4 (fun d' st' e' z4 A4 s hd' M4 G => ⟨by omega, fun _ => ?_, fun c0 => by omega⟩) (fun q => by rw [if_pos q] at hst; omega) (fun nos z4 A4 G => ⟨by decide, fun c0 => absurd rfl c0, fun _ => h0 z4 A4 ?_ ⟨kk, ⟨d, st, e, hau, Or.inr ⟨by rw [← u1]; exact c, by rw [← u1]; exact nos⟩⟩, by rw [G.1 _ hne]; exact w3'⟩⟩)
        · obtain ⟨y1, y2, y3, y4⟩ := G
          have T4 : cl_T L K r z4 A4 (r R 2) := cl_T_keep f5 (y1 _ hne) (y3 _ hax)
          have k1 : kk + 1 < nt := by
            apply Classical.byContradiction
            intro q9
            rcases tb5 (by omega) with q9 | q9
            · exact c (by rw [u1]; exact q9)
            · rw [u1, q9] at s
              rcases s with s | s | s | s | s | s | s | s | s | s | s | s | s | s <;> omega
          refine wq_c10_advance (p := q) T4 (by rw [y1 _ hne]; exact w5) (by rw [y1 _ hne, f6]; omega) (fun z5 b' q' o T5 l1 l3 l5 hR' hk' x' ex' => ?_)
          rw [y3 _ hax, cA, y1 _ hne, f6] at hR'
          have zR : z5 R = z4 R := o R (Ne.symm hne)
          have hb' := hR'.2.1
          refine ih (kk + 1) q z5 A4 d' x' st' e' b' q' u3 k1 ⟨d, st, e, hau, by rw [← u1]; exact c, by rw [← u1]; exact s⟩ ?_ (by omega) (by omega) hd' ?_ ⟨fun a a1 a2 => by rw [o a a2, y1 a a1, f1 a a1 a2], fun j j5 j6 => by rw [zR, y2 j j5 j6, f2 j j5 j6], fun a ha => by rw [y3 a ha, f3 a ha], y4, T5, by rw [l1, y1 _ hne, f6], by omega⟩ l3 l5 hR' hk' (fun h => hacc (cq_A_step hR c s h))
          · exact sp_len s hst pq
          · unfold cq_m at M4 ⊢
            rw [zR]
            exact M4
        · obtain ⟨y1, y2, y3, y4⟩ := G
          exact ⟨fun a a1 a2 => by rw [y1 a a1, f1 a a1 a2], fun j j5 j6 => by rw [y2 j j5 j6, f2 j j5 j6], fun a ha => by rw [y3 a ha, f3 a ha], y4, cl_T_keep f5 (y1 _ hne) (y3 _ hax), by rw [y1 _ hne, f6], by rw [y1 _ hne]; exact f7⟩
  have zW : z2 (r R 2) = z (r R 2) := by rw [e2, cw_s_a hne, e1, cw_s_a hne]
  have hbn := hR.2.1
  refine key 4001 0 0 z2 A 1 0 [] 0 b q TK.1.symm TK.2.1 ⟨rfl, rfl, rfl⟩ (by decide) (by omega) (by decide) (by decide) ⟨by rw [e2, cw_s_k (by decide), e1, cw_s_same]; rfl, True.intro, by rw [e2, cw_s_same], Or.inl rfl, by simp⟩ ⟨fun a a1 _ => by rw [e2, cw_s_a a1, e1, cw_s_a a1], fun j j5 j6 => by rw [e2, cw_s_k j6, e1, cw_s_k j5], fun _ _ => rfl, hb, cl_T_keep T zW rfl, by rw [zW], by rw [zW]; omega⟩ (by rw [zW]; exact w3) (by rw [zW]; exact w5) (by rw [zW]; exact hR) (by rw [zW]; exact hk) (fun h => h)
end CO
