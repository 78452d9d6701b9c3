/-- neither the text nor a game is changed -/
noncomputable def md_Z (A B : Nat → Nat → Int) : Prop := ∀ k, 2 < k → k < 49 → B k = A k
theorem md_refl (A : Nat → Nat → Int) : md_Z A A := fun _ _ _ => rfl
theorem wv_type {z : Nat → Int} {A : Nat → Nat → Int} {y n : Int} {Q : Int → (Nat → Int) → (Nat → Nat → Int) → Prop} (hI : mi_I z A) (hy : hz_rL y) (hn : hz_rI n) (hQ1 : mt_ok y n (z 5) → ∀ z' B, mi_I z' B → z' 5 = z 5 + n → tx_R (A 4) (B 4) (z 5) n y → (∀ q, q ≠ 3 → q ≠ 5 → z' q = z q) → lq_K 4 A B → Q (z 5 + n) z' B) (hQ0 : ¬ mt_ok y n (z 5) → ∀ z', mi_I z' A → z' 5 = z 5 → (∀ q, q ≠ 3 → q ≠ 5 → z' q = z q) → Q (-1) z' A) : wp_type z A y n Q := by
  intro z1 hz1
  have hI1 : mi_I z1 A := by rw [hz1]; exact mi_3 hI 0
  have e5 : z1 5 = z 5 := by rw [hz1]; exact lp_U_other (by decide)
  have h5 := hI1.1
  have hm : ∀ k : Nat, hz_rL (y / 2 ^ (8 * k)) := fun k => mt_div hy _
  have hc : ∀ k : Nat, 0 ≤ mt_c y k ∧ mt_c y k < 256 := fun k => ⟨Int.emod_nonneg _ (by decide), Int.emod_lt_of_pos _ (by decide)⟩
  have e8 : ∀ k : Nat, (8 * (k : Int)).toNat = 8 * k := fun k => by omega
  have bad : ¬ mt_ok y n (z 5) → wp_type_93 z1 A y n 0 Q := fun h => ⟨⟨by decide, by decide⟩, fun c => absurd rfl c, fun _ => hQ0 h z1 hI1 e5 (fun q q3 _ => by rw [hz1, lp_U_other q3])⟩
  have put : mt_ok y n (z 5) → wp_type_93 z1 A y n 1 Q := by
    intro h
    obtain ⟨g1, g2, g3, g4⟩ := h
    refine ⟨⟨by decide, by decide⟩, fun _ x hx => ?_, fun c => by omega⟩
    intro P hP
    have key : ∀ (k : Nat) (z' : Nat → Int) (B : Nat → Nat → Int), (k : Int) ≤ n → (∀ q, q ≠ 3 → q ≠ 5 → z' q = z q) → z' 5 = z 5 + (n - k) → lq_K 4 A B → (∀ i : Nat, (i : Int) < z' 5 → 32 ≤ B 4 i ∧ B 4 i ≤ 126) → ((∀ i : Nat, (i : Int) < z 5 → B 4 i = A 4 i) ∧ ∀ q : Nat, k ≤ q → (q : Int) < n → B 4 (z 5 + n - 1 - (q : Int)).toNat = ct_c y q) → P z' B ((k : Int) - 1) := by
      intro k
      induction k with
      | zero =>
        intro z' B hk hz' h5' hB ht hx9
        refine hP z' B _ ⟨⟨by omega, by omega⟩, fun _ => ?_, fun c => by omega⟩
        have e : z' 5 = z 5 + n := by omega
        rw [e]
        exact hQ1 ⟨g1, g2, g3, g4⟩ z' B (mi_text hI hz' (by omega) hB ht) e ⟨hx9.1, fun q hq => hx9.2 q (Nat.zero_le q) hq⟩ hz' hB
      | succ k ih =>
        intro z' B hk hz' h5' hB ht hx9
        have ek : ((k + 1 : Nat) : Int) - 1 = (k : Int) := by omega
        rw [ek]
        have hck := g4 k (by omega)
        refine hP z' B _ ⟨⟨by omega, by omega⟩, fun c => by omega, fun c => ⟨hy, ⟨by omega, by omega⟩, ?_⟩⟩
        rw [e8]
        have hck2 : 32 ≤ (y / 2 ^ (8 * k)) % 256 ∧ (y / 2 ^ (8 * k)) % 256 ≤ 126 := hck
        refine ⟨hm k, ⟨by omega, by omega⟩, ⟨by omega, by omega⟩, ⟨by omega, by omega⟩, fun B2 hB2 z3 hz3 x4 hx4 => ?_⟩
        have ex : x4 = (k : Int) - 1 := by omega
        have e35 : z3 5 = z' 5 + 1 := by rw [hz3, lp_U_same]
        rw [ex]
        refine ih z3 B2 (by omega) (fun q q3 q5 => by rw [hz3, lp_U_other q5]; exact hz' q q3 q5) (by omega) (lq_K_trans hB (by rw [hB2]; exact lq_K_s _ _ _ _)) (fun i hi => ?_) ⟨fun i hi => ?_, fun q q1 q2 => ?_⟩
        · rw [hB2, lq_s_fun]
          unfold hz_u
          split
          · exact hck2
          · exact ht i (by omega)
        · rw [hB2, lq_s_fun]
          unfold hz_u
          rw [if_neg (by omega)]
          exact hx9.1 i hi
        · rw [hB2, lq_s_fun]
          unfold hz_u
          by_cases eq : q = k
          · rw [eq, if_pos (by omega)]
            rfl
          · rw [if_neg (by omega)]
            exact hx9.2 q (by omega) q2
    obtain ⟨m, hm'⟩ : ∃ m : Nat, n = (m : Int) := ⟨n.toNat, by omega⟩
    have h2 := key m z1 A (by omega) (fun q q3 q5 => by rw [hz1, lp_U_other q3]) (by omega) (lq_K_refl _ A) hI1.2.1 ⟨fun _ _ => rfl, fun q q1 q2 => by omega⟩
    have ex : x = (m : Int) - 1 := by omega
    rw [ex]
    exact h2
  have loop : ∀ f : Int, (f = 0 ∧ ¬ mt_ok y n (z 5)) ∨ (f = 1 ∧ 1 ≤ n ∧ n ≤ 8 ∧ z 5 + n ≤ 4000) → wp_type_38 z1 A y n f 0 Q := by
    intro f hf
    intro P hP
    have key : ∀ (k j : Nat) (f : Int), 9 - j = k → j ≤ 8 → ((f = 0 ∧ ¬ mt_ok y n (z 5)) ∨ (f = 1 ∧ 1 ≤ n ∧ n ≤ 8 ∧ z 5 + n ≤ 4000 ∧ (j : Int) ≤ n ∧ ∀ i : Nat, i < j → 32 ≤ mt_c y i ∧ mt_c y i ≤ 126)) → P f (j : Int) := by
      intro k
      induction k with
      | zero => intro j f hk hj hf; omega
      | succ k ih =>
        intro j f hk hj hf
        rcases hf with ⟨f0, hno⟩ | ⟨f1, g1, g2, g3, g4, g5⟩
        · subst f0
          exact hP 0 _ ⟨⟨by decide, by decide⟩, fun _ => bad hno, fun c => absurd rfl c⟩
        · subst f1
          refine hP 1 _ ⟨⟨by decide, by decide⟩, fun c => by omega, fun _ => ⟨⟨by omega, by omega⟩, hn, fun c => put ⟨g1, g2, g3, fun i hi => g5 i (by omega)⟩, fun c => ⟨hy, ⟨by omega, by omega⟩, ?_⟩⟩⟩
          rw [e8]
          refine ⟨hm j, fun x hx => ?_⟩
          have hxc : x = mt_c y j := hx
          have hcj := hc j
          have no : (mt_c y j < 32 ∨ 126 < mt_c y j) → wp_type_84 z1 A y n (j : Int) P Q := by
            intro hb x5 hx5
            have e : x5 = ((j + 1 : Nat) : Int) := by omega
            by_cases c8 : j + 1 ≤ 8
            · rw [e]
              refine ih (j + 1) 0 (by omega) c8 (Or.inl ⟨rfl, fun h => ?_⟩)
              have := h.2.2.2 j (by omega)
              omega
            · exact hP 0 _ ⟨⟨by decide, by decide⟩, fun _ => bad (fun h => by have := h.2.2.2 j (by omega); omega), fun c => absurd rfl c⟩
          refine ⟨⟨by omega, by omega⟩, fun d => no (by omega), fun d => ⟨⟨by omega, by omega⟩, fun d2 => no (by omega), fun d2 x5 hx5 => ?_⟩⟩
          have e : x5 = ((j + 1 : Nat) : Int) := by omega
          have hall : ∀ i : Nat, i < j + 1 → 32 ≤ mt_c y i ∧ mt_c y i ≤ 126 := fun i hi => by
            by_cases ei : i = j
            · subst ei
              omega
            · exact g5 i (by omega)
          by_cases c8 : j + 1 ≤ 8
          · rw [e]
            exact ih (j + 1) 1 (by omega) c8 (Or.inr ⟨rfl, g1, g2, g3, by omega, hall⟩)
          · exact hP 1 _ ⟨⟨by decide, by decide⟩, fun c => by omega, fun _ => ⟨⟨by omega, by omega⟩, hn, fun c => put ⟨g1, g2, g3, fun i hi => hall i (by omega)⟩, fun c => by omega⟩⟩
    rcases hf with h | h
    · exact key _ 0 f rfl (by omega) (Or.inl h)
    · exact key _ 0 f rfl (by omega) (Or.inr ⟨h.1, h.2.1, h.2.2.1, h.2.2.2, by omega, fun i hi => by omega⟩)
  refine ⟨hn, fun c => loop 0 (Or.inl ⟨rfl, fun h => by have := h.1; omega⟩), fun c => ⟨hn, fun d => loop 0 (Or.inl ⟨rfl, fun h => by have := h.2.1; omega⟩), fun d => ⟨⟨by omega, by omega⟩, fun e => loop 0 (Or.inl ⟨rfl, fun h => by have := h.2.2.1; omega⟩), fun e => loop 1 (Or.inr ⟨rfl, by omega, by omega, by omega⟩)⟩⟩⟩
