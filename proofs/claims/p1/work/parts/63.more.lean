theorem hm_vr (e : va_E) (L : List Nat) : vr_up (fun _ => e) L e = (fun _ => e) := by
  funext j
  simp [vr_up]
theorem hm_kadd {D : va_G} {cl : List vw_C} {tys : List (ClassId × FieldType)} {s : State} {cJ : ClassId} (hK : va_K D cl tys s) (h1 : ArrOfT s cJ .long) (h2 : s.vm.findClass ("[" ++ FieldType.long.toString) = some cJ) : va_K D cl (tys ++ [(cJ, .long)]) s := ⟨hK.1, fun k q h => by
  by_cases hl : k < tys.length
  · rw [List.getElem?_append_left hl] at h
    exact hK.2 k q h
  · rw [List.getElem?_append_right (by omega)] at h
    have hz : k - tys.length < 1 := (List.getElem?_eq_some_iff.mp h).1
    rw [show k - tys.length = 0 by omega] at h
    cases h
    exact ⟨h1, h2⟩⟩
