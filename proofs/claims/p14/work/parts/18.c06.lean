section CK
variable {L : List Nat} {K : Nat → cw_K} {r : Nat → Nat → Nat} {z A : Nat → Nat → Int} {w : Nat → Nat × Nat} {ρ : Nat → Nat} {z0 A0 : Nat → Nat → Int} {R : Nat} {P : Nat → Int → Prop} {O : Nat → Nat → Prop} {E : Int} {c : Nat → Int} {n : Nat}
/-- a count changed -/
theorem cq_cnt {i v : Int} {A' : Nat → Nat → Int} {p : Nat} (X : cq_X L K r w ρ R) (D : cq_D L K r ρ R z0 A0 P O E z A) (hw : cq_w L K r c n z A R p) (e : A' = hz_s A (r (r R 3) 0) i v) (hv : hz_rI v) : cq_D L K r ρ R z0 A0 P O E z A' ∧ cq_M K r z A z A' R ∧ cq_w L K r c n z A' R p := by
  obtain ⟨c1, c2, c3, c4⟩ := cq_wc X
  have x4 := X.2.2.2.1
  have x10 := X.2.2.2.2.2.2.2.2.2.1
  have oth : ∀ a, a ≠ r (r R 3) 0 → A' a = A a := fun a ha => by rw [e, hz_s_a ha]
  refine ⟨cq_D_keep D (fun a ha => ⟨rfl, oth a (fun q => ha (by rw [q]; exact Or.inr c4))⟩) (by rw [e]; exact cJ_st D.2.1 c1 (cg_dig x10 c3 x4 (by decide)) ⟨fun _ => hv, by omega, by omega, by omega⟩) (fun _ _ => rfl) (fun t k ht hk => oth _ (Ne.symm (cq_apart X ht (by omega)).2.2.1)) (fun k hk => oth _ (Ne.symm (cg_ne c3 (cq_wr X hk).1 (fun q => (cq_o3 X).2.1 q.1)))) (fun i hi => oth _ (cg_ne (cq_ww X hi).2.2.1 c3 (fun q => (cq_o3 X).1 _ _ x4 q.1.symm))), fun t ht => ⟨Int.le_refl _, fun i _ _ => by rw [oth _ (Ne.symm (cq_apart X ht (k := 2) (by omega)).2.2.1)]⟩, cq_w_keep hw rfl (oth _ (fun q => ?_)) ⟨rfl, rfl⟩⟩
  have t := hw.1.2.1
  rw [q] at t
  have := cw_A_ne t c1
  omega
theorem cq_n_2 {A' : Nat → Nat → Int} (h : cq_n r A R E 1) (e : A' = hz_s A (r (r R 3) 0) 2 (A (r (r R 3) 0) (2 : Int).toNat + 1)) : cq_n r A' R E 0 ∧ hz_rI (A (r (r R 3) 0) (2 : Int).toNat + 1) := by
  obtain ⟨n1, n2, n3, n4, n5, n6⟩ := h
  have n' : A (r (r R 3) 0) (2 : Int).toNat = A (r (r R 3) 0) 2 := rfl
  have m2 : A' (r (r R 3) 0) 2 = A (r (r R 3) 0) 2 + 1 := by
    have q := hz_s_same (A := A) (r (r R 3) 0) 2 (A (r (r R 3) 0) (2 : Int).toNat + 1)
    rw [← e] at q
    exact q
  have mo : ∀ j : Nat, j ≠ 2 → A' (r (r R 3) 0) j = A (r (r R 3) 0) j := fun j hj => by rw [e, hz_s_i (show j ≠ (2 : Int).toNat from hj)]
  exact ⟨⟨by rw [mo 1 (by decide)]; exact n1, n2, by rw [m2]; omega, by rw [mo 3 (by decide)]; exact n4, by rw [m2, mo 3 (by decide), mo 0 (by decide)]; omega, by rw [mo 0 (by decide)]; exact n6⟩, by rw [n']; omega⟩
theorem cq_n_3 {A' : Nat → Nat → Int} (h : cq_n r A R E 1) (e : A' = hz_s A (r (r R 3) 0) 3 (A (r (r R 3) 0) (3 : Int).toNat + 1)) : cq_n r A' R E 0 ∧ hz_rI (A (r (r R 3) 0) (3 : Int).toNat + 1) := by
  obtain ⟨n1, n2, n3, n4, n5, n6⟩ := h
  have n' : A (r (r R 3) 0) (3 : Int).toNat = A (r (r R 3) 0) 3 := rfl
  have m2 : A' (r (r R 3) 0) 3 = A (r (r R 3) 0) 3 + 1 := by
    have q := hz_s_same (A := A) (r (r R 3) 0) 3 (A (r (r R 3) 0) (3 : Int).toNat + 1)
    rw [← e] at q
    exact q
  have mo : ∀ j : Nat, j ≠ 3 → A' (r (r R 3) 0) j = A (r (r R 3) 0) j := fun j hj => by rw [e, hz_s_i (show j ≠ (3 : Int).toNat from hj)]
  exact ⟨⟨by rw [mo 1 (by decide)]; exact n1, n2, by rw [mo 2 (by decide)]; exact n3, by rw [m2]; omega, by rw [m2, mo 2 (by decide), mo 0 (by decide)]; omega, by rw [mo 0 (by decide)]; exact n6⟩, by rw [n']; omega⟩
theorem cq_n_0 {A' : Nat → Nat → Int} (h : cq_n r A R E 0) (hl : ¬ 400 ≤ A (r (r R 3) 0) (0 : Int).toNat) (e : A' = hz_s A (r (r R 3) 0) 0 (A (r (r R 3) 0) (0 : Int).toNat + 1)) : cq_n r A' R E 1 ∧ hz_rI (A (r (r R 3) 0) (0 : Int).toNat + 1) := by
  obtain ⟨n1, n2, n3, n4, n5, n6⟩ := h
  have n' : A (r (r R 3) 0) (0 : Int).toNat = A (r (r R 3) 0) 0 := rfl
  rw [n'] at hl
  have m2 : A' (r (r R 3) 0) 0 = A (r (r R 3) 0) 0 + 1 := by
    have q := hz_s_same (A := A) (r (r R 3) 0) 0 (A (r (r R 3) 0) (0 : Int).toNat + 1)
    rw [← e] at q
    exact q
  have mo : ∀ j : Nat, j ≠ 0 → A' (r (r R 3) 0) j = A (r (r R 3) 0) j := fun j hj => by rw [e, hz_s_i (show j ≠ (0 : Int).toNat from hj)]
  exact ⟨⟨by rw [mo 1 (by decide)]; exact n1, n2, by rw [mo 2 (by decide)]; exact n3, by rw [mo 3 (by decide)]; exact n4, by rw [m2, mo 2 (by decide), mo 3 (by decide)]; omega, by rw [m2]; omega⟩, by rw [n']; omega⟩
end CK
