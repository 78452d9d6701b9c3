theorem hb_ok_zero : hb_ok (fun _ _ => 0) := fun w h0 h1 => ⟨⟨by show (0 : Int) ≤ 0; decide, by show (0 : Int) ≤ hb_r w; unfold hb_r; split <;> decide⟩, Or.inl rfl, fun i hi => ⟨by show (0 : Int) ≤ 0; decide, by show (0 : Int) < 16777216; decide⟩, fun q => absurd (show (0 : Int) < 0 from q) (by decide)⟩
/-- a new model -/
theorem mi_start : mi_I (fun k => ([0, 0, 0, 0, 0, 0, (-1), 0, 0, 0, 0, 0, 0, 0, 0, 0, 0, 0, 0, 0, 0, 0, 0, 0, 0, 0, 0, 0, 0, 0, 0, 0, 0, 1, 0, 0, 0, 0, 0, 0, 0, 0, 0, 0, 0, 0, 0, 0, 0, 0, 0, 0, 0, 0, 0, 0, 0, 0] : List Int).getD k 0) (fun _ _ => 0) := by
  refine ⟨by decide, fun i hi => by have hi : (i : Int) < 0 := hi; omega, by decide, by decide, by decide, fun q => absurd q (by decide), ?_, fun s => by show (0 : Int) ≤ 0 ∧ (0 : Int) ≤ 100; decide, fun s => Or.inl rfl, by decide⟩
  exact hb_ok_zero
