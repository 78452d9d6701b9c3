section TWO
variable {D : va_G} {cl : List vw_C} {A : Nat → Prop} {W1 W2 : va_W} {H H0 H1 : Heap} {locs : List Loc}
theorem two_P1 (hP : va_P D cl (W1 ++ W2) H) : va_P D cl W1 H := by
  rw [va_P_mem] at hP ⊢
  exact fun q hq => hP q (List.mem_append_left _ hq)
theorem two_P2 (hP : va_P D cl (W1 ++ W2) H) : va_P D cl W2 H := by
  rw [va_P_mem] at hP ⊢
  exact fun q hq => hP q (List.mem_append_right _ hq)
theorem two_D1 (hD : va_D A (W1 ++ W2)) : va_D A W1 := by
  refine hD.by id (fun i p hp => ?_) (fun i j _ _ e => e)
  rw [id, List.getElem?_append_left (List.getElem?_eq_some_iff.mp hp).1]
  exact hp
theorem two_D2 (hD : va_D A (W1 ++ W2)) : va_D A W2 := by
  refine hD.by (fun i => W1.length + i) (fun i p hp => ?_) (fun i j _ _ e => by omega)
  rw [List.getElem?_append_right (by omega), show W1.length + i - W1.length = i by omega]
  exact hp
theorem two_F (hD : va_D A W1) (hS : va_S A H0 H locs) (hA : ∀ q, H0.size ≤ q → A q) : ∀ q, va_A W1 H.size q → A q := by
  intro q hq
  rcases hq with ⟨k, e, hk⟩ | hq
  · exact hD.2 k _ hk
  · exact hA q (Nat.le_trans hS.1 hq)
theorem two_x (hD : va_D A (W1 ++ W2)) {p q : Nat × va_E} (hp : p ∈ W1) (hq : q ∈ W2) : p.1 ≠ q.1 := by
  intro e
  obtain ⟨i, hi⟩ := List.getElem?_of_mem hp
  obtain ⟨j, hj⟩ := List.getElem?_of_mem hq
  have hl := (List.getElem?_eq_some_iff.mp hi).1
  have h1 : (W1 ++ W2)[i]? = some p := by rw [List.getElem?_append_left hl]; exact hi
  have h2 : (W1 ++ W2)[W1.length + j]? = some q := by rw [List.getElem?_append_right (by omega), show W1.length + j - W1.length = j by omega]; exact hj
  have := hD.1 _ _ _ _ h1 h2 e
  omega
theorem two_J1 {W1' : va_W} (hP : va_P D cl (W1 ++ W2) H) (hD : va_D A (W1 ++ W2)) (hk : ∀ q : Nat, q < H.size → ¬ va_A W1 H.size q → H1[q]? = H[q]?) (hF : ∀ q, va_A W1 H.size q → A q) (hP1 : va_P D cl W1' H1) (hD1 : va_D (va_A W1 H.size) W1') : va_P D cl (W1' ++ W2) H1 ∧ va_D A (W1' ++ W2) := by
  have lt : ∀ q, q ∈ W2 → q.1 < H.size := fun q hq => by
    obtain ⟨j, hj⟩ := List.getElem?_of_mem hq
    exact (two_P2 hP j q hj).lt
  have no : ∀ q, q ∈ W2 → ¬ va_A W1 H.size q.1 := fun q hq h => by
    rcases h with ⟨k, e, h⟩ | h
    · exact two_x hD (List.mem_of_getElem? h) hq rfl
    · have := lt q hq; omega
  refine ⟨va_P.app hP1 (fun k q hq => (two_P2 hP k q hq).kept (hk q.1 (lt q (List.mem_of_getElem? hq)) (no q (List.mem_of_getElem? hq)))), va_D.app (hD1.weaken (fun k q _ h => hF q.1 h)) (two_D2 hD) (fun i j p q hp hq e => ?_)⟩
  exact no q (List.mem_of_getElem? hq) (by rw [← e]; exact hD1.2 i p hp)
theorem two_J2 {W2' : va_W} (hP : va_P D cl (W1 ++ W2) H) (hD : va_D A (W1 ++ W2)) (hk : ∀ q : Nat, q < H.size → ¬ va_A W2 H.size q → H1[q]? = H[q]?) (hF : ∀ q, va_A W2 H.size q → A q) (hP1 : va_P D cl W2' H1) (hD1 : va_D (va_A W2 H.size) W2') : va_P D cl (W1 ++ W2') H1 ∧ va_D A (W1 ++ W2') := by
  have lt : ∀ q, q ∈ W1 → q.1 < H.size := fun q hq => by
    obtain ⟨j, hj⟩ := List.getElem?_of_mem hq
    exact (two_P1 hP j q hj).lt
  have no : ∀ q, q ∈ W1 → ¬ va_A W2 H.size q.1 := fun q hq h => by
    rcases h with ⟨k, e, h⟩ | h
    · exact two_x hD hq (List.mem_of_getElem? h) rfl
    · have := lt q hq; omega
  refine ⟨va_P.app (fun k q hq => (two_P1 hP k q hq).kept (hk q.1 (lt q (List.mem_of_getElem? hq)) (no q (List.mem_of_getElem? hq)))) hP1, va_D.app (two_D1 hD) (hD1.weaken (fun k q _ h => hF q.1 h)) (fun i j p q hp hq e => ?_)⟩
  exact no p (List.mem_of_getElem? hp) (by rw [e]; exact hD1.2 j q hq)
end TWO
/-- what type answers: the new length, or -1 -/
noncomputable def lq_t (a l n : Int) (ok : Prop) (l' : Int) : Prop := (ok ∧ a = l + n ∧ l' = l + n) ∨ (¬ ok ∧ a = -1 ∧ l' = l)
theorem lq_t_eq {a a' l l' n k k' : Int} {ok ok' : Prop} (h : lq_t a l n ok k) (h' : lq_t a' l' n ok' k') (el : l = l') (eo : ok ↔ ok') : a = a' ∧ k = k' := by
  rcases h with ⟨h1, h2, h3⟩ | ⟨h1, h2, h3⟩ <;> rcases h' with ⟨g1, g2, g3⟩ | ⟨g1, g2, g3⟩
  · omega
  · exact absurd (eo.mp h1) g1
  · exact absurd (eo.mpr g1) h1
  · omega
section HK
variable {args : Array Value} {s : State}
theorem hm_kP {ty : FieldType} (h : (Cond.arrayClass ty).before args s = true) (hr : ∀ c, s.vm.findClass ("[" ++ ty.toString) = some c → va_RA s c ty) : ∃ c : ClassId, ArrOfT s c ty ∧ va_RA s c ty := by
  obtain ⟨c, k, comp, h1, h2, h3⟩ := Cond.arrayClass_spec h
  exact ⟨c, fun n z => ⟨fun k h => (by cases h), k, h2, comp, h3⟩, hr c h1⟩
theorem hm_kO {C : String} (h : (Cond.arrayOver (.object C)).before args s = true) : ∃ c : ClassId, ArrOfT s c (.object C) ∧ va_RA s c (.object C) := by
  obtain ⟨comp, c, k, h1, h2, h3, h4, h5⟩ := Cond.arrayOver_spec h
  exact ⟨c, fun n z => ⟨fun k h => (by cases h), k, h3, comp, h4⟩, k, comp, h3, h4, h1, h5⟩
theorem hm_kA {t : FieldType} (h : (Cond.arrayOver (.array t)).before args s = true) : ∃ c : ClassId, ArrOfT s c (.array t) ∧ va_RA s c (.array t) := by
  obtain ⟨comp, c, k, h1, h2, h3, h4, h5⟩ := arrayOverA_spec h
  exact ⟨c, fun n z => ⟨fun k h => (by cases h), k, h3, comp, h4⟩, h5⟩
end HK
