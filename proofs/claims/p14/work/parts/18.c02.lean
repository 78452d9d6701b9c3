section CO
variable {L : List Nat} {K : Nat → cw_K} {r : Nat → Nat → Nat} {z A : Nat → Nat → Int} {R : Nat}
/-- what a step of the automaton may change -/
noncomputable def cq_g (r : Nat → Nat → Nat) (z A z' A' : Nat → Nat → Int) (R : Nat) : Prop := (∀ a, a ≠ R → z' a = z a) ∧ (∀ j, j ≠ 5 → j ≠ 6 → z' R j = z R j) ∧ (∀ a, a ≠ r R 4 → A' a = A a) ∧ ∀ i, A' (r R 4) i = 0 ∨ A' (r R 4) i = 1
theorem cq_g_refl (hb : ∀ i, A (r R 4) i = 0 ∨ A (r R 4) i = 1) : cq_g r z A z A R := ⟨fun _ _ => rfl, fun _ _ _ => rfl, fun _ _ => rfl, hb⟩
/-- its state, as it lies in the reader -/
noncomputable def cq_m (r : Nat → Nat → Nat) (z A : Nat → Nat → Int) (R : Nat) (st : List Int) (e : Int) : Prop := z R 5 = (st.length : Int) ∧ cq_t (A (r R 4)) st ∧ z R 6 = e ∧ (e = 0 ∨ e = 1) ∧ st.length ≤ 2000
/-- what isOne may change -/
noncomputable def cq_f (L : List Nat) (K : Nat → cw_K) (r : Nat → Nat → Nat) (z A z' A' : Nat → Nat → Int) (R : Nat) : Prop := (∀ a, a ≠ R → a ≠ r R 2 → z' a = z a) ∧ (∀ j, j ≠ 5 → j ≠ 6 → z' R j = z R j) ∧ (∀ a, a ≠ r R 4 → A' a = A a) ∧ (∀ i, A' (r R 4) i = 0 ∨ A' (r R 4) i = 1) ∧ cl_T L K r z' A' (r R 2) ∧ z' (r R 2) 1 = z (r R 2) 1 ∧ (0 ≤ z' (r R 2) 3 ∧ z' (r R 2) 3 ≤ 4000)
end CO
