section CM
variable {L : List Nat} {K : Nat → cw_K} {r : Nat → Nat → Nat} {z A : Nat → Nat → Int} {w : Nat → Nat × Nat} {ρ : Nat → Nat} {z0 A0 : Nat → Nat → Int} {R : Nat} {P : Nat → Int → Prop} {O : Nat → Nat → Prop} {E : Int} {c : Nat → Int} {n : Nat}
/-- a side's arrays apart from all else that is read -/
theorem cq_apart (X : cq_X L K r w ρ R) {t k : Nat} (ht : t < 2) (hk : k = 1 ∨ k = 2 ∨ k = 3 ∨ k = 4 ∨ k = 6 ∨ k = 7) : (∀ j, (j = 9 ∨ j = 10 ∨ j = 11 ∨ j = 12) → r R j ≠ r (cw_g K (r (r R 3) 1) t) k) ∧ (∀ i, i < 20 → (cw_g K (r (r R 3) 3) i) ≠ r (cw_g K (r (r R 3) 1) t) k) ∧ r (r R 3) 0 ≠ r (cw_g K (r (r R 3) 1) t) k ∧ ∀ t' k', t' < 2 → (k' = 1 ∨ k' = 2 ∨ k' = 3 ∨ k' = 4 ∨ k' = 6 ∨ k' = 7) → t' ≠ t → r (cw_g K (r (r R 3) 1) t') k' ≠ r (cw_g K (r (r R 3) 1) t) k := by
  have o := cq_o3 X
  have q := (cq_ws X ht hk).2.2.1
  have s1 := (cq_side X ht).1
  refine ⟨fun j hj => cg_ne (cq_wr X hj).1 q (fun e => (o.2.2.2.2 t ht).1 e.1.symm), fun i hi => cg_ne (cq_ww X hi).2.2.1 q (fun e => o.1 _ _ s1 e.1.symm), cg_ne (cq_wc X).2.2.1 q (fun e => (o.2.2.2.2 t ht).2.1 e.1.symm), fun t' k' ht' hk' hne => cg_ne (cq_ws X ht' hk').2.2.1 q (fun e => cq_side_ne X ht' ht hne e.1)⟩
/-- the deeds of a set whose node is being read -/
noncomputable def cq_P (P : Nat → Int → Prop) (t : Nat) (x m : Int) : Nat → Int → Prop := fun t' d => P t' d ∨ (t' = t ∧ d / 512 = x ∧ d % 512 < m)
end CM
