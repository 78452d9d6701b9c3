theorem hm_upd0 (k : Nat) : upd (fun _ => 0) k 0 = (fun _ => 0) := by
  funext j
  simp [upd]
