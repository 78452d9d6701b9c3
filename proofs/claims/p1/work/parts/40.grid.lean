section HMG
variable {p : Program} {l : Launch} {e : Env} {R : Room} {s : State} {m : MethodId} {args : Array Value} {below : List Frame} {meth : Method} {c : Code} {H : Heap} {locs : List Loc} {cells slots : Nat} {Q : State → Prop}
variable {cc : ByteArray} {pc : Nat} {ls : Array Slot} {rest : List Value} {D : va_G} {cl : List vw_C} {A : Nat → Prop} {a : Nat} {tys : List (ClassId × FieldType)} {ws : va_W} {H0 : Heap}
/-- a row of a grid -/
theorem hm_aldG (hexec : p.tables.exec = Jvm.exec) (hb : c.code = cc) (hK : va_K D cl tys s) (hP : va_P D cl ws H) (q0 t0 : Nat) {cA : ClassId} {ty : FieldType} {n : Nat} {r : Nat → Nat} (ha : ws[q0]? = some (a, .inl (cA, n, .inr (.inr (.inr (.inr (fun i => if i < n then some (r i) else none))))))) (ht : tys[t0]? = some (cA, .array ty)) {i : Nat} (hi : i < n) (hn : n < 2 ^ 31) (hdg : decode cc pc = .ok (.aaload, 1))
    (kk : W p l e R s m args below meth c H locs cells slots Q (F0 m (pc + 1) ls (.ref (r i) :: rest))) : W p l e R s m args below meth c H locs cells slots Q (F0 m pc ls (.int (nI i) :: .ref a :: rest)) := by
  have hin : vp_in (nI i) n := vp_in_nI hi hn
  have hc : (nI i).toNatClampNeg = i := nI_clamp (by omega)
  refine W.aald (v := .ref (r i)) (ty := .array ty) hexec hb (hP q0 _ ha) ((hK.2 t0 _ ht).1 n (fun j => va_rf (if j < n then some (r j) else none))) rfl (fun q => by cases q) (by show ¬ (nI i < 0 ∨ (arrV _ _ _).slots.size ≤ _); rw [arrV_size]; exact hin) ?_ rfl rfl hdg kk
  show (arrV _ _ _).slots[_]? = _
  rw [hc, arrV_read _ _ hi]
  show some (va_rf (if i < n then some (r i) else none)) = _
  rw [if_pos hi]
  rfl
/-- 0 into a row that is all 0: the rows stay -/
theorem hm_lastG {X : va_W} {L : List Nat} {cJ : ClassId} {n : Nat} (hexec : p.tables.exec = Jvm.exec) (hb : c.code = cc) (hK : va_K D cl tys s) (hP : va_P D cl (X ++ va_pl L (fun _ => .inl (cJ, n, .inr (.inl (fun _ => 0))))) H) (hD : va_D A (X ++ va_pl L (fun _ => .inl (cJ, n, .inr (.inl (fun _ => 0)))))) (hS : va_S A H0 H locs) (t0 : Nat) (ha : a ∈ L) (ht : tys[t0]? = some (cJ, .long)) {i : Int32} (hin : vp_in i n) (hdg : decode cc pc = .ok (.lastore, 1))
    (kk : ∀ (H1 : Heap) (locs1 : List Loc), va_P D cl (X ++ va_pl L (fun _ => .inl (cJ, n, .inr (.inl (fun _ => 0))))) H1 → va_S A H0 H1 locs1 → W p l e R s m args below meth c H1 locs1 cells slots Q (F0 m (pc + 1) ls rest)) : W p l e R s m args below meth c H locs cells slots Q (F0 m pc ls (.long 0 :: .int i :: .ref a :: rest)) := by
  obtain ⟨k, hk⟩ := va_pl_get (X := X) (f := fun _ => .inl (cJ, n, .inr (.inl (fun _ => 0)))) ha
  refine va_last hexec hb hK hP hD hS k t0 hk ht hin hdg (fun H1 locs1 hP1 _ hS1 => kk H1 locs1 ?_ hS1)
  have e1 : vp_updL (fun _ => 0) i.toNatClampNeg 0 = (fun _ => 0) := by
    funext j
    simp [vp_updL]
  rw [e1, va_pl_set hD ha hk] at hP1
  have e2 : va_up (fun _ => (.inl (cJ, n, .inr (.inl (fun _ => 0))) : va_E)) a (.inl (cJ, n, .inr (.inl (fun _ => 0)))) = (fun _ => .inl (cJ, n, .inr (.inl (fun _ => 0)))) := by
    funext j
    simp [va_up]
  rw [e2] at hP1
  exact hP1
/-- the class of the rows of longs -/
theorem hm_kJ {ty : FieldType} (h : (Cond.arrayClass ty).before args s = true) : ∃ cJ : ClassId, s.vm.findClass ("[" ++ ty.toString) = some cJ ∧ ArrOfT s cJ ty := by
  obtain ⟨c, k, comp, h1, h2, h3⟩ := Cond.arrayClass_spec h
  exact ⟨c, h1, fun n z => ⟨fun k h => (by cases h), k, h2, comp, h3⟩⟩
end HMG
