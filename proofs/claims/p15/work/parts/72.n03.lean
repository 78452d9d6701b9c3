theorem wv_bad {T9 : sp_T} {z : Nat → Int} {A : Nat → Nat → Int} {n : Nat} {Q : Int → (Nat → Int) → (Nat → Nat → Int) → Prop} (TB : ∀ j, j < n → A 7 j = tk_m (T9.1 j)) (kin : ∀ j, j < n → T9.1 j = 0 ∨ T9.1 j = 48 ∨ T9.1 j = 1 ∨ cl_w (T9.1 j)) (hT : mc_T A n)
    (hQ : ∀ (r : Int) (z' : Nat → Int) (B : Nat → Nat → Int), (∀ q, q ≠ 12 → z' q = z q) → lq_K 11 A B → ((r = -1 ∧ ma_A (ma_t A n) 0 [300, 0] ∧ ∃ k', sp_ok T9.1 k') ∨ (0 ≤ r ∧ r < n ∧ sp_no T9.1 r.toNat)) → Q r z' B) : wp_bad z A Q := by
  obtain ⟨n1, n2, hK, hmid, hlast⟩ := hT
  intro z0 hz0
  have hz0' : z0 = lp_U z 12 (([] : List Int).length : Int) := hz0
  rw [hz0']
  refine wq_want (by decide) trivial (fun B1 hK1 hL1 => wq_want (by decide) hL1 (fun B2 hK2 hL2 => ?_))
  intro P hP
  have key : ∀ (m k : Nat) (st : List Int) (B : Nat → Nat → Int), 16 * (n - k) + mb_M st = m → ((st = [] ∧ k ≤ n) ∨ (mb_ok st ∧ k + 1 ≤ n)) → lq_K 11 A B → mb_L B st → mb_E st ≤ 2 + 4 * k + (if st.head? = some 40 then 2 else 0) → (ma_A (ma_t A n) k st → ma_A (ma_t A n) 0 [300, 0]) → mb_S T9.1 k st → P (lp_U z 12 (st.length : Int)) B (k : Int) := by
    intro m
    induction m using Nat.strongRecOn with
    | ind m ih =>
      intro k st B hm hst hKB hLB hE hA hS
      cases st with
      | nil =>
        refine hP _ B _ ?_
        rw [lp_U_same]
        exact ⟨⟨by decide, by decide⟩, fun _ => hQ _ _ B (fun q hq => lp_U_other hq) hKB (Or.inl ⟨rfl, hA (ma_nil _ _), hS⟩), fun c => by simp at c⟩
      | cons w st =>
        obtain ⟨hok, hkn⟩ : mb_ok (w :: st) ∧ k + 1 ≤ n := by
          rcases hst with h | h
          · exact absurd h.1 (by simp)
          · exact h
        have hlenE := mb_E_len (w :: st)
        have hh : (if (w :: st).head? = some 40 then (2 : Int) else 0) ≤ 2 := by split <;> omega
        have hlen : (w :: st).length < 16010 := by omega
        have hlen' : st.length < 16009 := by simp at hlen; omega
        have hlc : ((w :: st).length : Int) = (st.length : Int) + 1 := by simp
        have ek : ((k : Int)).toNat = k := by omega
        have e7 : B 7 = A 7 := hKB 7 (by decide)
        have tk : ma_t A n k = A 7 k := if_pos (by omega)
        have hkr := (hK k (by omega)).1
        have hwr : 0 ≤ w ∧ w ≤ 305 := by
          cases st with
          | nil => have : w = 0 := hok; omega
          | cons v st => have := hok.1; omega
        -- a step that consumes c words
        have go : ∀ (k2 : Nat) (st2 : List Int) (C : Nat → Nat → Int), lq_K 11 A C → mb_L C st2 → (16 * (n - k2) + mb_M st2 < 16 * (n - k) + mb_M (w :: st)) → ((st2 = [] ∧ k2 ≤ n) ∨ (mb_ok st2 ∧ k2 + 1 ≤ n)) → mb_E st2 ≤ 2 + 4 * k2 + (if st2.head? = some 40 then 2 else 0) → (ma_A (ma_t A n) k2 st2 → ma_A (ma_t A n) k (w :: st)) → mb_S T9.1 k2 st2 → ∀ x : Int, x = (k2 : Int) → P (lp_U z 12 (st2.length : Int)) C x := by
          intro k2 st2 C hKC hLC hms hst2 hE2 hA2 hS2 x hx
          rw [hx]
          exact ih _ (by omega) k2 st2 C rfl hst2 hKC hLC hE2 (fun h => hA (hA2 h)) hS2
        have fail : ∀ (r : Int) (z' : Nat → Int) (C : Nat → Nat → Int), r = (k : Int) → (∀ q, q ≠ 12 → z' q = z q) → lq_K 11 A C → sp_no T9.1 k → Q r z' C := fun r z' C hr hz' hKC hno => hQ r z' C hz' hKC (Or.inr ⟨by omega, by omega, by rw [hr, show ((k : Int)).toNat = k by omega]; exact hno⟩)
        have cvt : ∀ v : Int, cl_w v → (A 7 k = v ↔ T9.1 k = v) := fun v hv => by
          rw [TB k (by omega)]
          exact ⟨fun q => (tk_m_inv (kin k (by omega)) q).2.2 hv, fun q => tk_m_eq q hv⟩
        have notlast : A 7 k ≠ 0 → A 7 k ≠ 2 → k + 1 + 1 ≤ n := by
          intro a b
          apply Classical.byContradiction
          intro hc
          have : n - 1 = k := by omega
          rw [this] at hlast
          rcases hlast with h | h
          · exact a h
          · exact b h
        refine hP _ B _ ?_
        rw [lp_U_same]
        refine ⟨⟨by omega, by omega⟩, fun c => by omega, fun _ z2 hz2 => ?_⟩
        rw [lp_U_U] at hz2
        have e12 : ((w :: st).length : Int) - 1 = (st.length : Int) := by omega
        rw [e12] at hz2
        subst hz2
        rw [lp_U_same]
        have el : ((st.length : Int)).toNat = st.length := by omega
        refine ⟨⟨by omega, by omega⟩, fun x2 hx2 => ?_⟩
        rw [el, hLB.1] at hx2
        subst hx2
        refine ⟨⟨by omega, by omega⟩, fun x3 hx3 => ?_⟩
        rw [ek, e7] at hx3
        subst hx3
        have hbase := hLB.2
        simp only [mb_E] at hE
        refine ⟨⟨by omega, by omega⟩, fun big => ⟨⟨by omega, by omega⟩, fun npart => ?_, fun isnode => ?_⟩, fun small => ⟨⟨by omega, by omega⟩, ⟨by omega, by omega⟩, fun eq x1 hx1 => ?_, fun ne => fail _ _ B rfl (fun q hq => lp_U_other hq) hKB (mb_term_no (by omega) hS (by rw [← TB k (by omega)]; exact ne))⟩⟩
        · -- a part
          have hsne : st ≠ [] := by
            intro e
            rw [e] at hok
            have : x2 = 0 := hok
            omega
          have hokt := mb_ok_tail hok hsne
          have hd40 : ¬ (x2 :: st).head? = some 40 := by simp; omega
          rw [if_neg hd40] at hE
          refine ⟨⟨by omega, by omega⟩, fun n301 => ⟨⟨by omega, by omega⟩, fun n302 => ⟨⟨by omega, by omega⟩, fun n303 => ⟨⟨by omega, by omega⟩, fun comma => ?_, fun ncomma => ?_⟩, fun is303 => ?_⟩, fun is302 => ⟨⟨by omega, by omega⟩, fun nslash => ?_, fun slash => ?_⟩⟩, fun is301 => ?_⟩
          · -- a comma: more
            have hw2 : (x2 = 304 ∧ (303 : Int) = 303) ∨ (x2 = 305 ∧ (303 : Int) = 303) := by omega
            have hee : mb_e x2 = 1 := by unfold mb_e; rw [if_neg (by omega), if_neg (by omega)]
            have hmm : mb_m x2 = 1 := by unfold mb_m; rw [if_neg (by omega), if_neg (by omega), if_neg (by omega)]
            have hnl := notlast (by omega) (by omega)
            refine wq_want (by omega) hbase (fun C1 hC1 hL1' => ?_)
            have push : ∀ v : Int, (x2 = 304 ∧ v = 303) ∨ (x2 = 305 ∧ v = 300) → wp_part_112 (lp_U z 12 ((x2 :: st).length : Int)) C1 v (fun r z' A' => ∀ x1 : Int, x1 = (k : Int) + r → wp_bad_105 z' A' x1 P Q) := by
              intro v hv
              refine wq_want (by omega) hL1' (fun C2 hC2 hL2' x1 hx1 => ?_)
              refine go (k + 1) (v :: x2 :: st) C2 (lq_K_trans hKB (lq_K_trans hC1 hC2)) hL2' ?_ (Or.inr ⟨mb_ok_cons (by omega) hok, by omega⟩) ?_ (fun h => ?_) (mb_more1 hv hS ((cvt 44 (by unfold cl_w; omega)).mp comma)) x1 (by omega)
              · simp only [mb_M]
                have : mb_m v ≤ 7 := by unfold mb_m; split <;> (try split) <;> (try split) <;> omega
                omega
              · simp only [mb_E]
                have : mb_e v ≤ 4 := by unfold mb_e; split <;> (try split) <;> omega
                rw [if_neg (by simp; omega)]
                omega
              · rw [ma_more hv, if_pos (by rw [tk]; exact comma)]
                exact h
            exact ⟨⟨by omega, by omega⟩, fun n304 => push 300 (Or.inr ⟨by omega, rfl⟩), fun is304 => push 303 (Or.inl ⟨is304, rfl⟩)⟩
          · -- none
            intro x1 hx1
            have hv : (x2 = 304 ∧ (if x2 = 304 then (303 : Int) else 300) = 303) ∨ (x2 = 305 ∧ (if x2 = 304 then (303 : Int) else 300) = 300) := by
              rcases (show x2 = 304 ∨ x2 = 305 by omega) with e | e <;> subst e <;> simp
            have hee : 1 ≤ mb_e x2 := by unfold mb_e; split <;> (try split) <;> omega
            refine go k st B hKB hbase ?_ (Or.inr ⟨hokt, hkn⟩) ?_ (fun h => ?_) (mb_more0 (by omega) hS (fun q => ncomma ((cvt 44 (by unfold cl_w; omega)).mpr q))) x1 (by omega)
            · simp only [mb_M]
              have : 1 ≤ mb_m x2 := by unfold mb_m; split <;> (try split) <;> (try split) <;> omega
              omega
            · split <;> omega
            · rw [ma_more hv, if_neg (by rw [tk]; exact ncomma)]
              exact h
          · -- a way
            refine wq_want (by omega) hbase (fun C1 hC1 hL1' => wq_want (by simp; omega) hL1' (fun C2 hC2 hL2' => wq_want (by simp; omega) hL2' (fun C3 hC3 hL3' x1 hx1 => ?_)))
            have hee : mb_e x2 = 4 := by rw [is303]; rfl
            have hmm : mb_m x2 = 7 := by rw [is303]; rfl
            refine go k (301 :: 58 :: 300 :: st) C3 (lq_K_trans hKB (lq_K_trans hC1 (lq_K_trans hC2 hC3))) hL3' ?_ (Or.inr ⟨mb_ok_cons (by decide) (mb_ok_cons (by decide) (mb_ok_cons (by decide) hokt)), hkn⟩) ?_ (fun h => ?_) (by rw [is303] at hS; exact mb_way hS) x1 (by omega)
            · simp only [mb_M, hmm]
              have a1 : mb_m 301 = 4 := rfl
              have a2 : mb_m 58 = 1 := rfl
              have a3 : mb_m 300 = 1 := rfl
              omega
            · simp only [mb_E]
              have a1 : mb_e 301 = 2 := rfl
              have a2 : mb_e 58 = 1 := rfl
              have a3 : mb_e 300 = 1 := rfl
              rw [if_neg (by simp)]
              omega
            · rw [is303]
              exact ma_way.mpr h
          · -- no stroke
            intro x1 hx1
            have hee : mb_e x2 = 1 := by rw [is302]; rfl
            have hmm : mb_m x2 = 2 := by rw [is302]; rfl
            refine go k st B hKB hbase (by simp only [mb_M]; omega) (Or.inr ⟨hokt, hkn⟩) (by split <;> omega) (fun h => ?_) (by rw [is302] at hS; exact mb_line0 hS (fun q => nslash ((cvt 47 (by unfold cl_w; omega)).mpr q))) x1 (by omega)
            rw [is302]
            refine ma_line.mpr ?_
            rw [if_neg (by rw [tk]; exact nslash)]
            exact h
          · refine wq_want (by omega) hbase (fun C1 hC1 hL1' x1 hx1 => ?_)
            have hee : mb_e x2 = 1 := by rw [is302]; rfl
            have hmm : mb_m x2 = 2 := by rw [is302]; rfl
            have hnl := notlast (by omega) (by omega)
            refine go (k + 1) (1 :: st) C1 (lq_K_trans hKB hC1) hL1' ?_ (Or.inr ⟨mb_ok_cons (by decide) hokt, by omega⟩) ?_ (fun h => ?_) (by rw [is302] at hS; exact mb_line1 hS ((cvt 47 (by unfold cl_w; omega)).mp slash)) x1 (by omega)
            · simp only [mb_M]
              have a1 : mb_m 1 = 1 := rfl
              omega
            · simp only [mb_E]
              have a1 : mb_e 1 = 1 := rfl
              rw [if_neg (by simp)]
              omega
            · rw [is302]
              refine ma_line.mpr ?_
              rw [if_pos (by rw [tk]; exact slash)]
              exact h
          · -- a fraction
            refine wq_want (by omega) hbase (fun C1 hC1 hL1' => wq_want (by simp; omega) hL1' (fun C2 hC2 hL2' => ?_))
            have hee : mb_e x2 = 2 := by rw [is301]; rfl
            have hmm : mb_m x2 = 4 := by rw [is301]; rfl
            have a1 : mb_m 1 = 1 := rfl
            have a2 : mb_m 302 = 2 := rfl
            have b1 : mb_e 1 = 1 := rfl
            have b2 : mb_e 302 = 1 := rfl
            refine ⟨⟨by omega, by omega⟩, fun nm x1 hx1 => ?_, fun mn x1 hx1 => ?_⟩
            · refine go k (1 :: 302 :: st) C2 (lq_K_trans hKB (lq_K_trans hC1 hC2)) hL2' (by simp only [mb_M]; omega) (Or.inr ⟨mb_ok_cons (by decide) (mb_ok_cons (by decide) hokt), hkn⟩) (by simp only [mb_E]; rw [if_neg (by simp)]; omega) (fun h => ?_) (by rw [is301] at hS; exact mb_frac0 hS (fun q => nm ((cvt 45 (by unfold cl_w; omega)).mpr q))) x1 (by omega)
              rw [is301]
              refine ma_frac.mpr ?_
              rw [if_neg (by rw [tk]; exact nm)]
              exact h
            · have hnl := notlast (by omega) (by omega)
              refine go (k + 1) (1 :: 302 :: st) C2 (lq_K_trans hKB (lq_K_trans hC1 hC2)) hL2' (by simp only [mb_M]; omega) (Or.inr ⟨mb_ok_cons (by decide) (mb_ok_cons (by decide) hokt), by omega⟩) (by simp only [mb_E]; rw [if_neg (by simp)]; omega) (fun h => ?_) (by rw [is301] at hS; exact mb_frac1 hS ((cvt 45 (by unfold cl_w; omega)).mp mn)) x1 (by omega)
              rw [is301]
              refine ma_frac.mpr ?_
              rw [if_pos (by rw [tk]; exact mn)]
              exact h
        · -- a node
          have hsne : st ≠ [] := by
            intro e
            rw [e] at hok
            have : x2 = 0 := hok
            omega
          have hokt := mb_ok_tail hok hsne
          have hd40 : ¬ (x2 :: st).head? = some 40 := by simp; omega
          rw [if_neg hd40] at hE
          have hee : mb_e x2 = 1 := by rw [isnode]; rfl
          have hmm : mb_m x2 = 1 := by rw [isnode]; rfl
          have m1 : mb_m 301 = 4 := rfl
          have m2 : mb_m 303 = 7 := rfl
          have m3 : mb_m 304 = 1 := rfl
          have m4 : mb_m 305 = 1 := rfl
          have m5 : mb_m 300 = 1 := rfl
          have m6 : mb_m 40 = 1 := rfl
          have m7 : mb_m 41 = 1 := rfl
          have m8 : mb_m 93 = 1 := rfl
          have m9 : mb_m 1 = 1 := rfl
          have q1 : mb_e 301 = 2 := rfl
          have q2 : mb_e 303 = 4 := rfl
          have q3 : mb_e 304 = 1 := rfl
          have q4 : mb_e 305 = 1 := rfl
          have q5 : mb_e 300 = 1 := rfl
          have q6 : mb_e 40 = 1 := rfl
          have q7 : mb_e 41 = 1 := rfl
          have q8 : mb_e 93 = 1 := rfl
          have q9 : mb_e 1 = 1 := rfl
          have choice : (A 7 k = 65 ∨ A 7 k = 66) → wp_node_69 (lp_U z 12 (st.length : Int)) B (fun r z' A' => hz_rI r ∧ ((¬ r = 0 → ∀ x1 : Int, x1 = (k : Int) + 1 → wp_bad_105 z' A' x1 P Q) ∧ (r = 0 → Q (k : Int) z' A'))) := by
            intro hAB
            have hnl := notlast (by omega) (by omega)
            refine wq_want (by omega) hbase (fun C1 hC1 hL1' => wq_want (by simp; omega) hL1' (fun C2 hC2 hL2' => wq_want (by simp; omega) hL2' (fun C3 hC3 hL3' => wq_want (by simp; omega) hL3' (fun C4 hC4 hL4' => wq_want (by simp; omega) hL4' (fun C5 hC5 hL5' => ?_)))))
            refine ⟨⟨by decide, by decide⟩, fun _ x1 hx1 => ?_, fun c => by omega⟩
            refine go (k + 1) (1 :: 40 :: 300 :: 305 :: 41 :: st) C5 (lq_K_trans hKB (lq_K_trans hC1 (lq_K_trans hC2 (lq_K_trans hC3 (lq_K_trans hC4 hC5))))) hL5' (by simp only [mb_M]; omega) (Or.inr ⟨mb_ok_cons (by decide) (mb_ok_cons (by decide) (mb_ok_cons (by decide) (mb_ok_cons (by decide) (mb_ok_cons (by decide) hokt)))), by omega⟩) (by simp only [mb_E]; rw [if_neg (by simp)]; omega) (fun h => ?_) (by rw [isnode] at hS; exact mb_node65 hS (by rw [← cvt 65 (by unfold cl_w; omega), ← cvt 66 (by unfold cl_w; omega)]; exact hAB)) x1 (by omega)
            rw [isnode]
            exact ma_node.mpr (Or.inr (Or.inr ⟨by rw [tk]; exact hAB, h⟩))
          refine ⟨⟨by omega, by omega⟩, fun n91 => ⟨⟨by omega, by omega⟩, fun n63 => ⟨⟨by omega, by omega⟩, fun is65 => choice (Or.inl is65), fun n65 => ⟨⟨by omega, by omega⟩, fun n66 => ⟨⟨by decide, by decide⟩, fun c => absurd rfl c, fun _ => fail _ _ B rfl (fun q hq => lp_U_other hq) hKB (by rw [isnode] at hS; exact mb_node_no hS (by rw [← cvt 91 (by unfold cl_w; omega), ← cvt 63 (by unfold cl_w; omega), ← cvt 65 (by unfold cl_w; omega), ← cvt 66 (by unfold cl_w; omega)]; omega))⟩, fun is66 => choice (Or.inr is66)⟩⟩, fun is63 => ?_⟩, fun is91 => ?_⟩
          · have hnl := notlast (by omega) (by omega)
            refine wq_want (by omega) hbase (fun C1 hC1 hL1' => wq_want (by simp; omega) hL1' (fun C2 hC2 hL2' => wq_want (by simp; omega) hL2' (fun C3 hC3 hL3' => wq_want (by simp; omega) hL3' (fun C4 hC4 hL4' => ?_))))
            refine ⟨⟨by decide, by decide⟩, fun _ x1 hx1 => ?_, fun c => by omega⟩
            refine go (k + 1) (40 :: 303 :: 304 :: 41 :: st) C4 (lq_K_trans hKB (lq_K_trans hC1 (lq_K_trans hC2 (lq_K_trans hC3 hC4)))) hL4' (by simp only [mb_M]; omega) (Or.inr ⟨mb_ok_cons (by decide) (mb_ok_cons (by decide) (mb_ok_cons (by decide) (mb_ok_cons (by decide) hokt))), by omega⟩) (by simp only [mb_E]; rw [if_pos (by simp)]; omega) (fun h => ?_) (by rw [isnode] at hS; exact mb_node63 hS ((cvt 63 (by unfold cl_w; omega)).mp is63)) x1 (by omega)
            rw [isnode]
            exact ma_node.mpr (Or.inr (Or.inl ⟨by rw [tk]; exact is63, h⟩))
          · have hnl := notlast (by omega) (by omega)
            refine wq_want (by omega) hbase (fun C1 hC1 hL1' => wq_want (by simp; omega) hL1' (fun C2 hC2 hL2' => ?_))
            refine ⟨⟨by decide, by decide⟩, fun _ x1 hx1 => ?_, fun c => by omega⟩
            refine go (k + 1) (301 :: 93 :: st) C2 (lq_K_trans hKB (lq_K_trans hC1 hC2)) hL2' (by simp only [mb_M]; omega) (Or.inr ⟨mb_ok_cons (by decide) (mb_ok_cons (by decide) hokt), by omega⟩) (by simp only [mb_E]; rw [if_neg (by simp)]; omega) (fun h => ?_) (by rw [isnode] at hS; exact mb_node91 hS ((cvt 91 (by unfold cl_w; omega)).mp is91)) x1 (by omega)
            rw [isnode]
            exact ma_node.mpr (Or.inl ⟨by rw [tk]; exact is91, h⟩)
        · -- a word of its own
          have hmm : 1 ≤ mb_m x2 := by unfold mb_m; split <;> (try split) <;> (try split) <;> omega
          have hee : 1 ≤ mb_e x2 := by unfold mb_e; split <;> (try split) <;> omega
          refine go (k + 1) st B hKB hbase (by simp only [mb_M]; omega) ?_ ?_ (fun h => (ma_term (by omega)).mpr ⟨by rw [tk]; exact eq, h⟩) (mb_term (kin k (by omega)) (by omega) hS (by rw [← TB k (by omega)]; exact eq)) x1 (by omega)
          · cases st with
            | nil => exact Or.inl ⟨rfl, hkn⟩
            | cons v st =>
              refine Or.inr ⟨hok.2, ?_⟩
              have hw := hok.1
              exact notlast (by omega) (by omega)
          · split at hE <;> split <;> omega
  have h := key _ 0 [300, 0] B2 rfl (Or.inr ⟨⟨by decide, rfl⟩, n1⟩) (lq_K_trans hK1 hK2) hL2 (by decide) (fun h => h) ⟨1, [], 0, ⟨rfl, rfl, rfl⟩, (fun x hx => absurd hx (by simp)), Or.inl ⟨rfl, rfl, rfl, rfl⟩⟩
  exact h
