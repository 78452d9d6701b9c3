/-- what is wanted behind the open brackets -/
noncomputable def mb_w : List Int → List Int
  | [] => [0]
  | x :: t => (if x = 1 then 304 else 305) :: 41 :: mb_w t
noncomputable def mb_01 (s : List Int) : Prop := ∀ x, x ∈ s → x = 0 ∨ x = 1
/-- what is wanted behind a fraction -/
noncomputable def mb_T (e : Int) (s st : List Int) : Prop := (e = 0 ∧ st = 58 :: 300 :: mb_w s) ∨ (e = 1 ∧ st = 93 :: mb_w s)
/-- the two grammars stand at the same place, ahead of word k -/
noncomputable def mb_H (kc : Nat → Int) (k : Nat) (w : Int) (st : List Int) : Prop := ∃ (d : Int) (s : List Int) (e : Int), sp_au kc k d s e ∧ mb_01 s ∧
  ((w = 300 ∧ d = 1 ∧ e = 0 ∧ st = mb_w s) ∨
   (w = 1 ∧ d = 2 ∧ e = 0 ∧ st = 40 :: 300 :: 305 :: 41 :: mb_w s) ∨
   (w = 40 ∧ d = 3 ∧ e = 0 ∧ st = 300 :: 305 :: 41 :: mb_w s) ∨
   (w = 40 ∧ d = 4 ∧ e = 0 ∧ st = 303 :: 304 :: 41 :: mb_w s) ∨
   (w = 301 ∧ d = 5 ∧ mb_T e s st) ∨
   (w = 303 ∧ d = 5 ∧ e = 0 ∧ st = mb_w s) ∨
   (w = 1 ∧ (d = 6 ∨ (d = 5 ∧ ¬ kc k = 45)) ∧ ∃ t, st = 302 :: t ∧ mb_T e s t) ∨
   (w = 302 ∧ d = 7 ∧ mb_T e s st) ∨
   (w = 1 ∧ d = 8 ∧ mb_T e s st) ∨
   (w = 58 ∧ (d = 9 ∨ (d = 7 ∧ ¬ kc k = 47)) ∧ e = 0 ∧ st = 300 :: mb_w s) ∨
   (w = 93 ∧ (d = 9 ∨ (d = 7 ∧ ¬ kc k = 47)) ∧ e = 1 ∧ st = mb_w s) ∨
   (w = 0 ∧ d = 10 ∧ e = 0 ∧ s = [] ∧ st = []) ∨
   (w = 304 ∧ d = 10 ∧ e = 0 ∧ ∃ t, s = 1 :: t ∧ st = 41 :: mb_w t) ∨
   (w = 305 ∧ d = 10 ∧ e = 0 ∧ ∃ t, s = 0 :: t ∧ st = 41 :: mb_w t) ∨
   (w = 41 ∧ d = 10 ∧ e = 0 ∧ ¬ kc k = 44 ∧ ∃ x t, s = x :: t ∧ st = mb_w t))
noncomputable def mb_S (kc : Nat → Int) (k : Nat) (st : List Int) : Prop :=
  match st with
  | [] => ∃ k', sp_ok kc k'
  | w :: st => mb_H kc k w st
theorem mb_n10 {kc : Nat → Int} {k : Nat} {s : List Int} (h : sp_au kc k 10 s 0) (hs : mb_01 s) : mb_S kc k (mb_w s) := by
  cases s with
  | nil => exact ⟨10, [], 0, h, hs, by simp⟩
  | cons x t =>
    have hx := hs x (by simp)
    rcases hx with hx | hx
    · subst hx
      exact ⟨10, 0 :: t, 0, h, hs, by simp⟩
    · subst hx
      exact ⟨10, 1 :: t, 0, h, hs, by simp⟩
theorem mb_nT {kc : Nat → Int} {k : Nat} {d e : Int} {s st : List Int} (h : sp_au kc k d s e) (hs : mb_01 s) (hd : d = 9 ∨ (d = 7 ∧ ¬ kc k = 47)) (ht : mb_T e s st) : mb_S kc k st := by
  rcases ht with ⟨h1, h2⟩ | ⟨h1, h2⟩
  · subst h2
    exact ⟨d, s, e, h, hs, Or.inr (Or.inr (Or.inr (Or.inr (Or.inr (Or.inr (Or.inr (Or.inr (Or.inr (Or.inl ⟨rfl, hd, h1, rfl⟩)))))))))⟩
  · subst h2
    exact ⟨d, s, e, h, hs, Or.inr (Or.inr (Or.inr (Or.inr (Or.inr (Or.inr (Or.inr (Or.inr (Or.inr (Or.inr (Or.inl ⟨rfl, hd, h1, rfl⟩))))))))))⟩
theorem mb_T_e {e : Int} {s st : List Int} (h : mb_T e s st) : e = 0 ∨ e = 1 := by
  rcases h with h | h
  · exact Or.inl h.1
  · exact Or.inr h.1
theorem tk_m_inv {k w : Int} (hk : k = 0 ∨ k = 48 ∨ k = 1 ∨ cl_w k) (h : tk_m k = w) : (w = 0 → k = 0) ∧ (w = 1 → k = 48) ∧ (cl_w w → k = w) := by
  unfold tk_m at h
  unfold cl_w at hk ⊢
  split at h
  · omega
  · split at h <;> omega
theorem tk_m_eq {k w : Int} (h : k = w) (hw : cl_w w) : tk_m k = w := by rw [h]; exact tk_m_w hw
section MB
variable {kc : Nat → Int} {k : Nat} {st : List Int} {w : Int}
theorem mb_node (h : mb_S kc k (300 :: st)) : ∃ s, sp_au kc k 1 s 0 ∧ mb_01 s ∧ st = mb_w s := by
  obtain ⟨d, s, e, h1, h2, h3⟩ := h
  rcases h3 with h | h | h | h | h | h | h | h | h | h | h | h | h | h | h
  · obtain ⟨-, a, b, c⟩ := h
    subst a b
    exact ⟨s, h1, h2, c⟩
  all_goals omega
theorem mb_node91 (h : mb_S kc k (300 :: st)) (hk : kc k = 91) : mb_S kc (k + 1) (301 :: 93 :: st) := by
  obtain ⟨s, h1, h2, h3⟩ := mb_node h
  refine ⟨5, s, 1, ⟨1, s, 0, h1, by omega, cq_c0 ⟨rfl, hk, rfl, rfl, rfl⟩⟩, h2, ?_⟩
  exact Or.inr (Or.inr (Or.inr (Or.inr (Or.inl ⟨rfl, rfl, Or.inr ⟨rfl, by rw [h3]⟩⟩))))
theorem mb_node63 (h : mb_S kc k (300 :: st)) (hk : kc k = 63) : mb_S kc (k + 1) (40 :: 303 :: 304 :: 41 :: st) := by
  obtain ⟨s, h1, h2, h3⟩ := mb_node h
  refine ⟨4, s, 0, ⟨1, s, 0, h1, by omega, cq_c1 ⟨rfl, hk, rfl, rfl, rfl⟩⟩, h2, ?_⟩
  exact Or.inr (Or.inr (Or.inr (Or.inl ⟨rfl, rfl, rfl, by rw [h3]⟩)))
theorem mb_node65 (h : mb_S kc k (300 :: st)) (hk : kc k = 65 ∨ kc k = 66) : mb_S kc (k + 1) (1 :: 40 :: 300 :: 305 :: 41 :: st) := by
  obtain ⟨s, h1, h2, h3⟩ := mb_node h
  refine ⟨2, s, 0, ⟨1, s, 0, h1, by omega, cq_c2 ⟨rfl, hk, rfl, rfl, rfl⟩⟩, h2, ?_⟩
  exact Or.inr (Or.inl ⟨rfl, rfl, rfl, by rw [h3]⟩)
theorem mb_node_no (h : mb_S kc k (300 :: st)) (hk : ¬ (kc k = 91 ∨ kc k = 63 ∨ kc k = 65 ∨ kc k = 66)) : sp_no kc k := by
  obtain ⟨s, h1, h2, h3⟩ := mb_node h
  refine ⟨1, s, 0, h1, ?_⟩
  by_cases z : kc k = 0
  · exact Or.inl ⟨z, fun q => by omega⟩
  · refine Or.inr ⟨z, fun d' st' e' q => ?_⟩
    obtain ⟨-, q⟩ := cq_1 q
    omega
theorem mb_frac (h : mb_S kc k (301 :: st)) : ∃ s e, sp_au kc k 5 s e ∧ mb_01 s ∧ mb_T e s st := by
  obtain ⟨d, s, e, h1, h2, h3⟩ := h
  rcases h3 with h | h | h | h | h | h | h | h | h | h | h | h | h | h | h
  · omega
  · omega
  · omega
  · omega
  · obtain ⟨-, a, b⟩ := h
    subst a
    exact ⟨s, e, h1, h2, b⟩
  all_goals omega
theorem mb_frac1 (h : mb_S kc k (301 :: st)) (hk : kc k = 45) : mb_S kc (k + 1) (1 :: 302 :: st) := by
  obtain ⟨s, e, h1, h2, h3⟩ := mb_frac h
  refine ⟨6, s, e, ⟨5, s, e, h1, by omega, cq_c6 ⟨rfl, hk, rfl, rfl, rfl⟩⟩, h2, ?_⟩
  exact Or.inr (Or.inr (Or.inr (Or.inr (Or.inr (Or.inr (Or.inl ⟨rfl, Or.inl rfl, st, rfl, h3⟩))))))
theorem mb_frac0 (h : mb_S kc k (301 :: st)) (hk : ¬ kc k = 45) : mb_S kc k (1 :: 302 :: st) := by
  obtain ⟨s, e, h1, h2, h3⟩ := mb_frac h
  exact ⟨5, s, e, h1, h2, Or.inr (Or.inr (Or.inr (Or.inr (Or.inr (Or.inr (Or.inl ⟨rfl, Or.inr ⟨rfl, hk⟩, st, rfl, h3⟩))))))⟩
theorem mb_line (h : mb_S kc k (302 :: st)) : ∃ s e, sp_au kc k 7 s e ∧ mb_01 s ∧ mb_T e s st := by
  obtain ⟨d, s, e, h1, h2, h3⟩ := h
  rcases h3 with h | h | h | h | h | h | h | h | h | h | h | h | h | h | h
  · omega
  · omega
  · omega
  · omega
  · omega
  · omega
  · omega
  · obtain ⟨-, a, b⟩ := h
    subst a
    exact ⟨s, e, h1, h2, b⟩
  all_goals omega
theorem mb_line1 (h : mb_S kc k (302 :: st)) (hk : kc k = 47) : mb_S kc (k + 1) (1 :: st) := by
  obtain ⟨s, e, h1, h2, h3⟩ := mb_line h
  refine ⟨8, s, e, ⟨7, s, e, h1, by omega, cq_c8 ⟨rfl, hk, rfl, rfl, rfl⟩⟩, h2, ?_⟩
  exact Or.inr (Or.inr (Or.inr (Or.inr (Or.inr (Or.inr (Or.inr (Or.inr (Or.inl ⟨rfl, rfl, h3⟩))))))))
theorem mb_line0 (h : mb_S kc k (302 :: st)) (hk : ¬ kc k = 47) : mb_S kc k st := by
  obtain ⟨s, e, h1, h2, h3⟩ := mb_line h
  exact mb_nT h1 h2 (Or.inr ⟨rfl, hk⟩) h3
theorem mb_way (h : mb_S kc k (303 :: st)) : mb_S kc k (301 :: 58 :: 300 :: st) := by
  obtain ⟨d, s, e, h1, h2, h3⟩ := h
  rcases h3 with h | h | h | h | h | h | h | h | h | h | h | h | h | h | h
  · omega
  · omega
  · omega
  · omega
  · omega
  · obtain ⟨-, a, b, c⟩ := h
    exact ⟨d, s, e, h1, h2, Or.inr (Or.inr (Or.inr (Or.inr (Or.inl ⟨rfl, a, Or.inl ⟨b, by rw [c]⟩⟩))))⟩
  all_goals omega
theorem mb_more (hw : w = 304 ∨ w = 305) (h : mb_S kc k (w :: st)) : ∃ x t, sp_au kc k 10 (x :: t) 0 ∧ mb_01 (x :: t) ∧ st = 41 :: mb_w t ∧ ((w = 304 ∧ x = 1) ∨ (w = 305 ∧ x = 0)) := by
  obtain ⟨d, s, e, h1, h2, h3⟩ := h
  rcases h3 with h | h | h | h | h | h | h | h | h | h | h | h | h | h | h
  · omega
  · omega
  · omega
  · omega
  · omega
  · omega
  · omega
  · omega
  · omega
  · omega
  · omega
  · omega
  · obtain ⟨a, b, c, t, f, g⟩ := h
    subst b c f
    exact ⟨1, t, h1, h2, g, Or.inl ⟨a, rfl⟩⟩
  · obtain ⟨a, b, c, t, f, g⟩ := h
    subst b c f
    exact ⟨0, t, h1, h2, g, Or.inr ⟨a, rfl⟩⟩
  · omega
theorem mb_more0 (hw : w = 304 ∨ w = 305) (h : mb_S kc k (w :: st)) (hk : ¬ kc k = 44) : mb_S kc k st := by
  obtain ⟨x, t, h1, h2, h3, h4⟩ := mb_more hw h
  subst h3
  exact ⟨10, x :: t, 0, h1, h2, Or.inr (Or.inr (Or.inr (Or.inr (Or.inr (Or.inr (Or.inr (Or.inr (Or.inr (Or.inr (Or.inr (Or.inr (Or.inr (Or.inr ⟨rfl, rfl, rfl, hk, x, t, rfl, rfl⟩)))))))))))))⟩
theorem mb_more1 {v : Int} (hw : (w = 304 ∧ v = 303) ∨ (w = 305 ∧ v = 300)) (h : mb_S kc k (w :: st)) (hk : kc k = 44) : mb_S kc (k + 1) (v :: w :: st) := by
  obtain ⟨x, t, h1, h2, h3, h4⟩ := mb_more (by omega) h
  subst h3
  rcases h4 with ⟨a, b⟩ | ⟨a, b⟩
  · subst a b
    have ev : v = 303 := by omega
    subst ev
    refine ⟨5, 1 :: t, 0, ⟨10, 1 :: t, 0, h1, by omega, cq_c13 ⟨rfl, hk, rfl, rfl, Or.inr ⟨⟨t, rfl⟩, rfl⟩⟩⟩, h2, ?_⟩
    exact Or.inr (Or.inr (Or.inr (Or.inr (Or.inr (Or.inl ⟨rfl, rfl, rfl, rfl⟩)))))
  · subst a b
    have ev : v = 300 := by omega
    subst ev
    exact ⟨1, 0 :: t, 0, ⟨10, 0 :: t, 0, h1, by omega, cq_c13 ⟨rfl, hk, rfl, rfl, Or.inl ⟨⟨t, rfl⟩, rfl⟩⟩⟩, h2, Or.inl ⟨rfl, rfl, rfl, rfl⟩⟩
theorem mb_01_0 {s : List Int} (h : mb_01 s) : mb_01 (0 :: s) := fun x hx => by
  rcases List.mem_cons.mp hx with q | q
  · exact Or.inl q
  · exact h x q
theorem mb_01_1 {s : List Int} (h : mb_01 s) : mb_01 (1 :: s) := fun x hx => by
  rcases List.mem_cons.mp hx with q | q
  · exact Or.inr q
  · exact h x q
theorem mb_no {d e : Int} {s : List Int} (h : sp_au kc k d s e) (hd : ¬ (d = 10 ∧ s = [])) (hn : ¬ kc k = 0 → ∀ d' st' e', ¬ cq_s d s e (kc k) d' st' e') : sp_no kc k := by
  by_cases z : kc k = 0
  · exact ⟨d, s, e, h, Or.inl ⟨z, hd⟩⟩
  · exact ⟨d, s, e, h, Or.inr ⟨z, hn z⟩⟩
/-- a word of its own: met, or not -/
theorem mb_term (kin : kc k = 0 ∨ kc k = 48 ∨ kc k = 1 ∨ cl_w (kc k)) (hw : w < 300) (h : mb_S kc k (w :: st)) (hk : tk_m (kc k) = w) : mb_S kc (k + 1) st := by
  obtain ⟨k0, k1, k2⟩ := tk_m_inv kin hk
  obtain ⟨d, s, e, h1, h2, h3⟩ := h
  rcases h3 with h | h | h | h | h | h | h | h | h | h | h | h | h | h | h
  · omega
  · obtain ⟨a, b, c, f⟩ := h
    subst f
    have q := k1 a
    exact ⟨3, s, e, ⟨d, s, e, h1, by omega, cq_c3 ⟨b, q, rfl, rfl, rfl⟩⟩, h2, Or.inr (Or.inr (Or.inl ⟨rfl, rfl, c, rfl⟩))⟩
  · obtain ⟨a, b, c, f⟩ := h
    subst f
    have q := k2 (by unfold cl_w; omega)
    exact ⟨1, 0 :: s, e, ⟨d, s, e, h1, by omega, cq_c4 ⟨b, by omega, rfl, rfl, rfl⟩⟩, mb_01_0 h2, Or.inl ⟨rfl, rfl, c, rfl⟩⟩
  · obtain ⟨a, b, c, f⟩ := h
    subst f
    have q := k2 (by unfold cl_w; omega)
    exact ⟨5, 1 :: s, e, ⟨d, s, e, h1, by omega, cq_c5 ⟨b, by omega, rfl, rfl, rfl⟩⟩, mb_01_1 h2, Or.inr (Or.inr (Or.inr (Or.inr (Or.inr (Or.inl ⟨rfl, rfl, c, rfl⟩)))))⟩
  · omega
  · omega
  · obtain ⟨a, b, t, c, f⟩ := h
    subst c
    have q := k1 a
    exact ⟨7, s, e, ⟨d, s, e, h1, by omega, cq_c7 ⟨by omega, q, rfl, rfl, rfl⟩⟩, h2, Or.inr (Or.inr (Or.inr (Or.inr (Or.inr (Or.inr (Or.inr (Or.inl ⟨rfl, rfl, f⟩)))))))⟩
  · omega
  · obtain ⟨a, b, c⟩ := h
    have q := k1 a
    exact mb_nT (d := 9) (e := e) ⟨d, s, e, h1, by omega, cq_c9 ⟨b, q, rfl, rfl, rfl⟩⟩ h2 (Or.inl rfl) c
  · obtain ⟨a, b, c, f⟩ := h
    subst f
    have q := k2 (by unfold cl_w; omega)
    exact ⟨1, s, 0, ⟨d, s, e, h1, by omega, cq_c11 ⟨by omega, by omega, c, rfl, rfl, rfl⟩⟩, h2, Or.inl ⟨rfl, rfl, rfl, rfl⟩⟩
  · obtain ⟨a, b, c, f⟩ := h
    subst f
    have q := k2 (by unfold cl_w; omega)
    exact mb_n10 ⟨d, s, e, h1, by omega, cq_c10 ⟨by omega, by omega, by omega, rfl, rfl, rfl⟩⟩ h2
  · obtain ⟨a, b, c, f, g⟩ := h
    subst g
    have q := k0 a
    subst b c f
    exact ⟨k, 0, h1, q⟩
  · omega
  · omega
  · obtain ⟨a, b, c, f, x, t, g, i⟩ := h
    subst i
    have q := k2 (by unfold cl_w; omega)
    subst g c
    exact mb_n10 ⟨d, x :: t, 0, h1, by omega, cq_c12 ⟨b, by omega, ⟨x, rfl⟩, rfl, rfl⟩⟩ (fun y hy => h2 y (List.mem_cons_of_mem _ hy))
theorem mb_term_no (hw : w < 300) (h : mb_S kc k (w :: st)) (hk : ¬ tk_m (kc k) = w) : sp_no kc k := by
  have n1 : w = 1 → ¬ kc k = 48 := fun e q => hk (by rw [q, e]; rfl)
  have n2 : cl_w w → ¬ kc k = w := fun e q => hk (tk_m_eq q e)
  have n0 : w = 0 → ¬ kc k = 0 := fun e q => hk (by rw [q, e]; rfl)
  obtain ⟨d, s, e, h1, h2, h3⟩ := h
  rcases h3 with h | h | h | h | h | h | h | h | h | h | h | h | h | h | h
  · omega
  · obtain ⟨a, b, c, f⟩ := h
    subst b
    exact mb_no h1 (fun q => by omega) (fun _ d' st' e' q => n1 a (cq_2 q).2.2.1)
  · obtain ⟨a, b, c, f⟩ := h
    subst b
    have q := n2 (by unfold cl_w; omega)
    exact mb_no h1 (fun q => by omega) (fun _ d' st' e' q' => q (by rw [a]; exact (cq_3 q').2.2.1))
  · obtain ⟨a, b, c, f⟩ := h
    subst b
    have q := n2 (by unfold cl_w; omega)
    exact mb_no h1 (fun q => by omega) (fun _ d' st' e' q' => q (by rw [a]; exact (cq_4 q').2.2.1))
  · omega
  · omega
  · obtain ⟨a, b, t, c, f⟩ := h
    have q := n1 a
    refine mb_no h1 (fun q => by omega) (fun _ d' st' e' q' => ?_)
    rcases b with b | ⟨b, b'⟩
    · subst b
      exact q (cq_6 q').2.2.1
    · subst b
      have := (cq_5 q').2.2
      omega
  · omega
  · obtain ⟨a, b, c⟩ := h
    subst b
    exact mb_no h1 (fun q => by omega) (fun _ d' st' e' q => n1 a (cq_8 q).2.2.1)
  · obtain ⟨a, b, c, f⟩ := h
    have q := n2 (by unfold cl_w; omega)
    refine mb_no h1 (fun q => by omega) (fun _ d' st' e' q' => ?_)
    rcases b with b | ⟨b, b'⟩
    · subst b
      have := (cq_9 q').2.2
      omega
    · subst b
      rcases cq_7 q' with q'' | ⟨-, q''⟩
      · exact b' q''.1
      · have := (cq_9 q'').2.2
        omega
  · obtain ⟨a, b, c, f⟩ := h
    have q := n2 (by unfold cl_w; omega)
    refine mb_no h1 (fun q => by omega) (fun _ d' st' e' q' => ?_)
    rcases b with b | ⟨b, b'⟩
    · subst b
      have := (cq_9 q').2.2
      omega
    · subst b
      rcases cq_7 q' with q'' | ⟨-, q''⟩
      · exact b' q''.1
      · have := (cq_9 q'').2.2
        omega
  · obtain ⟨a, b, c, f, g⟩ := h
    subst b f
    have q := n0 a
    refine ⟨10, [], e, h1, Or.inr ⟨q, fun d' st' e' q' => ?_⟩⟩
    obtain ⟨-, q'⟩ := cq_10 q'
    rcases q' with ⟨-, ⟨x, s2⟩, -⟩ | ⟨-, -, ⟨⟨t, s2⟩, -⟩ | ⟨⟨t, s2⟩, -⟩⟩
    · exact absurd s2 (by simp)
    · exact absurd s2 (by simp)
    · exact absurd s2 (by simp)
  · omega
  · omega
  · obtain ⟨a, b, c, f, x, t, g, i⟩ := h
    subst b g
    have q := n2 (by unfold cl_w; omega)
    refine mb_no h1 (fun q => by simp at q) (fun _ d' st' e' q' => ?_)
    obtain ⟨-, q'⟩ := cq_10 q'
    rcases q' with ⟨q', -⟩ | ⟨q', -⟩
    · exact q (by rw [a]; exact q')
    · exact f q'
end MB
