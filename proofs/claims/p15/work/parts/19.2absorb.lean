theorem va_P_mem {D : va_G} {cl : List vw_C} {ws : va_W} {H : Heap} : va_P D cl ws H ↔ ∀ q, q ∈ ws → va_at D cl q H := ⟨fun h q hq => by
  obtain ⟨i, hi⟩ := List.getElem?_of_mem hq
  exact h i q hi, fun h k q hk => h q (List.mem_of_getElem? hk)⟩
theorem va_D_fst {A : Nat → Prop} {ws ws' : va_W} (h : ws.map Prod.fst = ws'.map Prod.fst) (hD : va_D A ws) : va_D A ws' := by
  have key : ∀ (i : Nat) (p : Nat × va_E), ws'[i]? = some p → ∃ p' : Nat × va_E, ws[i]? = some p' ∧ p'.1 = p.1 := by
    intro i p hp
    have e1 : (ws'.map Prod.fst)[i]? = some p.1 := by rw [List.getElem?_map, hp]; rfl
    rw [← h, List.getElem?_map] at e1
    cases hw : ws[i]? with
    | none => rw [hw] at e1; cases e1
    | some p' => rw [hw] at e1; exact ⟨p', rfl, Option.some.inj e1⟩
  refine ⟨fun i j p q hi hj e => ?_, fun k q hk => ?_⟩
  · obtain ⟨p', h1, e1⟩ := key i p hi
    obtain ⟨q', h2, e2⟩ := key j q hj
    exact hD.1 i j p' q' h1 h2 (by rw [e1, e2]; exact e)
  · obtain ⟨q', h1, e1⟩ := key k q hk
    rw [← e1]
    exact hD.2 k q' h1
section AB
variable {D : va_G} {A : Nat → Prop} {H : Heap} {C : Nat → ClassId} {L : List Nat} {G : Nat → cG} {O : Nat → Nat × Nat → Prop} {T : va_W}
theorem cc_absorb {X : va_W} {q : Nat} {e e' : va_E} (k : cw_K) (zz : Nat → Int) (rr : Nat → Nat) (AA : Nat → Int) (he : e' = cw_e C k zz rr AA) (hv : va_at D vwCl (q, e) H → va_at D vwCl (q, e') H) (hP : va_P D vwCl ((X ++ [(q, e)]) ++ (cc_w C L G ++ T)) H) (hD : va_D A ((X ++ [(q, e)]) ++ (cc_w C L G ++ T))) : ∃ G1 : Nat → cG, va_P D vwCl (X ++ (cc_w C (q :: L) G1 ++ T)) H ∧ va_D A (X ++ (cc_w C (q :: L) G1 ++ T)) ∧ q ∉ L ∧ G1 q = (k, zz, rr, AA) ∧ cx L G (q :: L) G1 := by
  have hq : q ∉ L := by
    have h1 : va_D A ((X ++ [(q, e)]) ++ cc_w C L G) := by
      refine hD.by id (fun i p hp => ?_) (fun i j _ _ e => e)
      rw [← List.append_assoc, id, List.getElem?_append_left (List.getElem?_eq_some_iff.mp hp).1]
      exact hp
    exact cc_ne (k := X.length) h1 (by rw [List.getElem?_append_right (Nat.le_refl _), Nat.sub_self]; rfl)
  obtain ⟨G1, e1, e2, e3⟩ := cc_push (C := C) (G := G) k zz rr AA he hq
  refine ⟨G1, ?_, ?_, hq, e2, e3⟩
  · rw [← e1]
    rw [va_P_mem] at hP ⊢
    intro p hp
    rcases List.mem_append.mp hp with h | h
    · exact hP p (List.mem_append_left _ (List.mem_append_left _ h))
    · rcases List.mem_cons.mp (by exact h : p ∈ (q, e') :: (cc_w C L G ++ T)) with h | h
      · rw [h]
        exact hv (hP _ (List.mem_append_left _ (List.mem_append_right _ List.mem_cons_self)))
      · exact hP p (List.mem_append_right _ h)
  · rw [← e1]
    refine va_D_fst ?_ hD
    simp only [List.map_append, List.map_cons, List.map_nil, List.append_assoc, List.cons_append, List.nil_append]
theorem cc_absorbArr {X : va_W} {q t n : Nat} {e : va_E} (A0 : Nat → Int) (he : e = cw_e C (.inr (.inl (t, n))) (fun _ => 0) (fun _ => 0) A0) (hP : va_P D vwCl ((X ++ [(q, e)]) ++ (cc_w C L G ++ T)) H) (hD : va_D A ((X ++ [(q, e)]) ++ (cc_w C L G ++ T))) (hU : cc_U L G O) (o : Nat × Nat) (hr : ∀ i, (t = 0 → hz_rI (A0 i)) ∧ (t = 1 → hz_rL (A0 i)) ∧ (t = 2 → 0 ≤ A0 i ∧ A0 i < 65536) ∧ (t = 3 → A0 i = 0 ∨ A0 i = 1)) : ∃ (L1 : List Nat) (G1 : Nat → cG), va_P D vwCl (X ++ (cc_w C L1 G1 ++ T)) H ∧ va_D A (X ++ (cc_w C L1 G1 ++ T)) ∧ cx L G L1 G1 ∧ cc_U L1 G1 (cO q o O) ∧ q ∈ L1 ∧ gK G1 q = .inr (.inl (t, n)) ∧ gA G1 q = A0 := by
  obtain ⟨G1, h1, h2, h3, h4, h5⟩ := cc_absorb _ _ _ _ he (fun h => h) hP hD
  have k : gK G1 q = .inr (.inl (t, n)) := by unfold gK; rw [h4]
  have ka : gA G1 q = A0 := by unfold gA; rw [h4]
  refine ⟨q :: L, G1, h1, h2, h5, cc_U_arr hU h3 h5 o (fun t' ht => by rw [k] at ht; cases ht) (fun t' n' ht i => ?_), List.mem_cons_self, k, ka⟩
  rw [k] at ht
  cases ht
  rw [ka]
  exact hr i
theorem cc_vrow {c : ClassId} {q N : Nat} {f : Nat → Option Nat} {g : Nat → Nat} (hfg : ∀ i, i < N → f i = some (g i)) (h : va_at D vwCl (q, .inl (c, N, .inr (.inr (.inr (.inr f))))) H) : va_at D vwCl (q, .inl (c, N, .inr (.inr (.inr (.inr (fun i => some (g i))))))) H := by
  have h : H[q]? = some (vp_cell c (N, .inr (.inr (.inr (.inr f))))) := h
  show H[q]? = some (vp_cell c (N, .inr (.inr (.inr (.inr (fun i => some (g i)))))))
  rw [h, vp_cell_q, vp_cell_q]
  unfold arrV
  congr 3
  funext j
  show va_rf (f j.val) = va_rf (some (g j.val))
  rw [hfg j.val j.isLt]
theorem cc_absorbRow {X : va_W} {q t N : Nat} {f : Nat → Option Nat} (g : Nat → Nat) (hfg : ∀ i, i < N → f i = some (g i)) (hP : va_P D vwCl ((X ++ [(q, .inl (C t, N, .inr (.inr (.inr (.inr f)))))]) ++ (cc_w C L G ++ T)) H) (hD : va_D A ((X ++ [(q, .inl (C t, N, .inr (.inr (.inr (.inr f)))))]) ++ (cc_w C L G ++ T))) (hU : cc_U L G O) (o : Nat × Nat) : ∃ (L1 : List Nat) (G1 : Nat → cG), va_P D vwCl (X ++ (cc_w C L1 G1 ++ T)) H ∧ va_D A (X ++ (cc_w C L1 G1 ++ T)) ∧ cx L G L1 G1 ∧ cc_U L1 G1 (cO q o O) ∧ q ∈ L1 ∧ gK G1 q = .inr (.inr (t, N, g)) := by
  obtain ⟨G1, h1, h2, h3, h4, h5⟩ := cc_absorb (e' := .inl (C t, N, .inr (.inr (.inr (.inr (fun i => some (g i))))))) (.inr (.inr (t, N, g))) (fun _ => 0) (fun _ => 0) (fun _ => 0) rfl (cc_vrow hfg) hP hD
  have k : gK G1 q = .inr (.inr (t, N, g)) := by unfold gK; rw [h4]
  exact ⟨q :: L, G1, h1, h2, h5, cc_U_arr hU h3 h5 o (fun t' ht => by rw [k] at ht; cases ht) (fun t' n' ht => by rw [k] at ht; cases ht), List.mem_cons_self, k⟩
theorem cc_absorbBig {X : va_W} {b d n : Nat} (hP : va_P D vwCl ((X ++ [(b, .inr (0, [.ref d, .int 0, .int 0])), (d, .inl (C 0, n, .inl (fun _ => 0)))]) ++ (cc_w C L G ++ T)) H) (hD : va_D A ((X ++ [(b, .inr (0, [.ref d, .int 0, .int 0])), (d, .inl (C 0, n, .inl (fun _ => 0)))]) ++ (cc_w C L G ++ T))) (hU : cc_U L G O) (hn : 2 ≤ n ∧ n ≤ 64) (o : Nat × Nat) : ∃ (L1 : List Nat) (G1 : Nat → cG), va_P D vwCl (X ++ (cc_w C L1 G1 ++ T)) H ∧ va_D A (X ++ (cc_w C L1 G1 ++ T)) ∧ cx L G L1 G1 ∧ cc_U L1 G1 (cO b o O) ∧ cc_B L1 G1 n b := by
  have eX : (X ++ [(b, .inr (0, [.ref d, .int 0, .int 0])), (d, .inl (C 0, n, .inl (fun _ => 0)))] : va_W) = (X ++ [(b, .inr (0, [.ref d, .int 0, .int 0]))]) ++ [(d, .inl (C 0, n, .inl (fun _ => 0)))] := by rw [List.append_assoc]; rfl
  rw [eX] at hP hD
  obtain ⟨L1, G1, p1, d1, x1, u1, m1, k1, a1⟩ := cc_absorbArr (t := 0) (n := n) (fun _ => 0) rfl hP hD hU (b, 0) (fun i => ⟨fun _ => by decide, by omega, by omega, by omega⟩)
  obtain ⟨G2, p2, d2, q2, e2, x2⟩ := cc_absorb (e' := .inr (0, [.ref d, .int 0, .int 0])) (.inl 0) (fun _ => 0) (fun _ => d) (fun _ => 0) rfl (fun h => h) p1 d1
  have kb : gK G2 b = .inl 0 := by unfold gK; rw [e2]
  have rb : gr G2 b 0 = d := by unfold gr; rw [e2]
  have zb : gz G2 b = fun _ => 0 := by unfold gz; rw [e2]
  have en : cw_n (gK G2) d = n := by rw [gn_e x2 m1]; unfold cw_n; rw [k1]
  refine ⟨b :: L1, G2, p2, d2, cx_t x1 x2, cc_U_imp (cc_U_obj u1 q2 x2 o kb (fun F f1 fr _ => ?_)) (fun x o' hx => ?_), ⟨List.mem_cons_self, kb⟩, by rw [rb]; exact List.mem_cons_of_mem _ m1, by rw [rb]; exact en⟩
  · refine ⟨⟨?_, ?_, ?_, ?_⟩, by rw [zb], by rw [zb]⟩
    · rw [rb]
      exact ⟨List.mem_cons_of_mem _ m1, by rw [en]; omega, by rw [gK_e x2 m1, en]; exact k1⟩
    · rw [rb, en]; exact hn
    · unfold gw; rw [rb]; exact (f1 d (b, 0) (Or.inl ⟨rfl, rfl⟩)).2
    · unfold gq; rw [rb]; exact fr d (List.mem_cons_of_mem _ m1)
  · rcases hx with hx | hx
    · exact Or.inl hx
    · exact Or.inr (Or.inr hx)
/-- a whole object that a constructor made -/
theorem cc_joinW {X : va_W} {L2 : List Nat} {G2 : Nat → cG} {t a : Nat} (hP : va_P D vwCl ((X ++ cc_w C L2 G2) ++ (cc_w C L G ++ T)) H) (hD : va_D A ((X ++ cc_w C L2 G2) ++ (cc_w C L G ++ T))) (hU : cc_U L G O) (hR : cc_R L2 G2 t a) (o : Nat × Nat) : ∃ (L1 : List Nat) (G1 : Nat → cG), va_P D vwCl (X ++ (cc_w C L1 G1 ++ T)) H ∧ va_D A (X ++ (cc_w C L1 G1 ++ T)) ∧ cx L G L1 G1 ∧ cc_U L1 G1 (cO a o O) ∧ cw_O L1 (gK G1) t a ∧ cx L2 G2 L1 G1 := by
  have eX : ((X ++ cc_w C L2 G2) ++ (cc_w C L G ++ T)) = X ++ ((cc_w C L2 G2 ++ cc_w C L G) ++ T) := by simp only [List.append_assoc]
  rw [eX] at hP hD
  have hd : ∀ x, x ∈ L2 → x ∉ L := by
    have h1 : va_D A (X ++ (cc_w C L2 G2 ++ cc_w C L G)) := by
      refine hD.by id (fun i p hp => ?_) (fun i j _ _ e => e)
      rw [← List.append_assoc, id, List.getElem?_append_left (List.getElem?_eq_some_iff.mp hp).1]
      exact hp
    exact cc_dis h1
  obtain ⟨G1, e1, x1, x2⟩ := cc_app (C := C) (G1 := G2) (G2 := G) hd
  rw [e1] at hP hD
  exact ⟨L2 ++ L, G1, hP, hD, x2, cc_U_imp (cc_U_join (hR.2 o) hU hd x1 x2) (fun _ _ h => h), cx_O x1 hR.1, x1⟩
/-- laid aside: into the pool of many regions -/
theorem cc_joinT {X : va_W} {L2 Lt : List Nat} {G2 Gt : Nat → cG} {O2 Ot : Nat → Nat × Nat → Prop} {Rt : Nat → Nat → Prop} (hP : va_P D vwCl ((X ++ cc_w C L2 G2) ++ (cc_w C L G ++ cc_w C Lt Gt)) H) (hD : va_D A ((X ++ cc_w C L2 G2) ++ (cc_w C L G ++ cc_w C Lt Gt))) (hS : cc_S Lt Gt Ot Rt) (hU : cc_U L2 G2 O2) (c : Nat) : ∃ (L1 : List Nat) (G1 : Nat → cG), va_P D vwCl (X ++ (cc_w C L G ++ cc_w C L1 G1)) H ∧ va_D A (X ++ (cc_w C L G ++ cc_w C L1 G1)) ∧ cx Lt Gt L1 G1 ∧ cx L2 G2 L1 G1 ∧ cc_S L1 G1 (fun b o => O2 b o ∨ Ot b o) (fun b c' => (b ∈ L2 ∧ c' = c) ∨ Rt b c') := by
  have hP2 : va_P D vwCl ((X ++ cc_w C L G) ++ (cc_w C L2 G2 ++ cc_w C Lt Gt)) H := by
    rw [va_P_mem] at hP ⊢
    intro p hp
    refine hP p ?_
    simp only [List.mem_append] at hp ⊢
    rcases hp with (h | h) | (h | h)
    · exact Or.inl (Or.inl h)
    · exact Or.inr (Or.inl h)
    · exact Or.inl (Or.inr h)
    · exact Or.inr (Or.inr h)
  have hD2 : va_D A ((X ++ cc_w C L G) ++ (cc_w C L2 G2 ++ cc_w C Lt Gt)) := by
    have e1 : ((X ++ cc_w C L2 G2) ++ (cc_w C L G ++ cc_w C Lt Gt)) = ((X ++ cc_w C L2 G2) ++ cc_w C L G) ++ cc_w C Lt Gt := by simp only [List.append_assoc]
    rw [e1] at hD
    have h1 := va_D.swap (a := X ++ cc_w C L2 G2) hD
    have e2 : ((X ++ cc_w C L2 G2) ++ cc_w C Lt Gt) ++ cc_w C L G = (X ++ (cc_w C L2 G2 ++ cc_w C Lt Gt)) ++ cc_w C L G := by simp only [List.append_assoc]
    rw [e2] at h1
    exact va_D.swap (a := X) h1
  have hd : ∀ x, x ∈ L2 → x ∉ Lt := cc_dis hD2
  obtain ⟨G1, e1, x1, x2⟩ := cc_app (C := C) (G1 := G2) (G2 := Gt) hd
  rw [e1, List.append_assoc] at hP2 hD2
  exact ⟨L2 ++ Lt, G1, hP2, hD2, x2, x1, cc_S_join (hU c) hS hd x1 x2⟩
end AB
theorem cc_at {C : Nat → ClassId} {X T : va_W} {L : List Nat} {G : Nat → cG} {t a : Nat} (h : cw_O L (gK G) t a) : ∃ (k : Nat) (fs : List Value), (X ++ (cc_w C L G ++ T))[k]? = some (a, .inr (t, fs)) := by
  obtain ⟨i, hi⟩ := cw_at (C := C) (z := gz G) (r := gr G) (A := gA G) h.1 h.2
  have hi : (cc_w C L G)[i]? = some (a, cw_e C (Sum.inl t) (gz G a) (gr G a) (gA G a)) := hi
  refine ⟨X.length + i, cw_v t (gz G a) (gr G a), ?_⟩
  rw [List.getElem?_append_right (by omega), show X.length + i - X.length = i by omega, List.getElem?_append_left (List.getElem?_eq_some_iff.mp hi).1]
  exact hi
theorem cc_atT {C : Nat → ClassId} {X T : va_W} {L : List Nat} {G : Nat → cG} {t a : Nat} (h : cw_O L (gK G) t a) : ∃ (k : Nat) (fs : List Value), (X ++ (T ++ cc_w C L G))[k]? = some (a, .inr (t, fs)) := by
  obtain ⟨i, hi⟩ := cw_at (C := C) (z := gz G) (r := gr G) (A := gA G) h.1 h.2
  refine ⟨X.length + (T.length + i), cw_v t (gz G a) (gr G a), ?_⟩
  rw [List.getElem?_append_right (by omega), show X.length + (T.length + i) - X.length = T.length + i by omega, List.getElem?_append_right (by omega), show T.length + i - T.length = i by omega]
  exact hi
/-- the rows of an array of arrays -/
theorem cc_U_rows {r : Nat → Nat} {q N n : Nat} (hinj : ∀ i j : Nat, i < N → j < N → r i = r j → i = j) : cc_U ((List.range N).map r) (fun _ => (.inr (.inl (1, n)), fun _ => 0, fun _ => 0, fun _ => 0)) (fun b o => ∃ i, i < N ∧ b = r i ∧ o = (q, i)) := by
  intro c
  have key : ∃ f : Nat → Nat, ∀ i, i < N → f (r i) = i := by
    have h : ∀ a, ∃ i, ∀ j, j < N → r j = a → j = i := by
      intro a
      by_cases ha : ∃ i, i < N ∧ r i = a
      · obtain ⟨i, hi, e⟩ := ha
        exact ⟨i, fun j hj e2 => hinj j i hj hi (e2.trans e.symm)⟩
      · exact ⟨0, fun j hj e2 => absurd ⟨j, hj, e2⟩ ha⟩
    exact ⟨fun a => Classical.choose (h a), fun i hi => (Classical.choose_spec (h (r i)) i hi rfl).symm⟩
  obtain ⟨f, hf⟩ := key
  refine ⟨fun a => ((q, f a), c), ⟨fun t a ha => absurd (show (Sum.inr (Sum.inl (1, n)) : cw_K) = Sum.inl t from ha.2) (fun q => by cases q), fun x => ?_⟩, fun b o hb => ?_, fun b c' hb => ⟨hb.1, hb.2.symm⟩⟩
  · refine ⟨fun _ i => by show hz_rI 0; decide, fun _ i => by show hz_rL 0; decide, fun _ i => by show (0 : Int) ≤ 0 ∧ (0 : Int) < 65536; decide, fun _ i => Or.inl rfl⟩
  · obtain ⟨i, hi, e1, e2⟩ := hb
    refine ⟨by rw [e1]; exact List.mem_map_of_mem (List.mem_range.mpr hi), ?_⟩
    show (q, f b) = o
    rw [e1, hf i hi, e2]
section CR
variable {L : List Nat} {G G1 : Nat → cG} {F : Nat → cD} {a : Nat}
theorem cl_Ro {t ci N k q : Nat} {g : Nat → Nat} (E : cx L G (a :: L) G1) (hn : N < 2 ^ 31) (hf : gr G1 a k = q) (hq : q ∈ L) (hk : gK G q = .inr (.inr (t, N, g))) (hO : ∀ i, i < N → cw_O L (gK G) ci (g i)) (hwi : ∀ i, i < N → (F (g i)).1 = (q, i)) (hr : ∀ x, x ∈ a :: L → (F x).2 = (F a).2) : cw_G (a :: L) (gK G1) t (gr G1 a k) ∧ cw_n (gK G1) (gr G1 a k) = N ∧ ∀ i, i < N → cw_O (a :: L) (gK G1) ci (cw_g (gK G1) (gr G1 a k) i) ∧ gw F (cw_g (gK G1) (gr G1 a k) i) = (gr G1 a k, i) ∧ gq F (cw_g (gK G1) (gr G1 a k) i) = gq F a := by
  have e : cw_n (gK G1) q = N := by rw [gn_e E hq]; unfold cw_n; rw [hk]
  have e2 : cw_g (gK G1) q = g := by rw [gg_e E hq]; unfold cw_g; rw [hk]
  unfold gw gq
  rw [hf, e2]
  exact ⟨⟨(E q hq).1, by rw [e]; exact hn, by rw [gK_e E hq, e, e2]; exact hk⟩, e, fun i hi => ⟨cx_O E (hO i hi), hwi i hi, hr _ (cx_O E (hO i hi)).1⟩⟩
theorem cl_RA {N n k q : Nat} {g : Nat → Nat} (E : cx L G (a :: L) G1) (hn : N < 2 ^ 31) (hn2 : n < 2 ^ 31) (hf : gr G1 a k = q) (hq : q ∈ L) (hk : gK G q = .inr (.inr (10, N, g))) (hO : ∀ i, i < N → g i ∈ L ∧ gK G (g i) = .inr (.inl (1, n))) (hwi : ∀ i, i < N → (F (g i)).1 = (q, i)) (hr : ∀ x, x ∈ a :: L → (F x).2 = (F a).2) : cw_G (a :: L) (gK G1) 10 (gr G1 a k) ∧ cw_n (gK G1) (gr G1 a k) = N ∧ ∀ i, i < N → cw_A (a :: L) (gK G1) 1 (cw_g (gK G1) (gr G1 a k) i) ∧ cw_n (gK G1) (cw_g (gK G1) (gr G1 a k) i) = n ∧ gw F (cw_g (gK G1) (gr G1 a k) i) = (gr G1 a k, i) ∧ gq F (cw_g (gK G1) (gr G1 a k) i) = gq F a := by
  have e : cw_n (gK G1) q = N := by rw [gn_e E hq]; unfold cw_n; rw [hk]
  have e2 : cw_g (gK G1) q = g := by rw [gg_e E hq]; unfold cw_g; rw [hk]
  unfold gw gq
  rw [hf, e2]
  refine ⟨⟨(E q hq).1, by rw [e]; exact hn, by rw [gK_e E hq, e, e2]; exact hk⟩, e, fun i hi => ?_⟩
  obtain ⟨m, k9⟩ := hO i hi
  have e3 : cw_n (gK G1) (g i) = n := by rw [gn_e E m]; unfold cw_n; rw [k9]
  exact ⟨⟨(E _ m).1, by rw [e3]; exact hn2, by rw [gK_e E m, e3]; exact k9⟩, e3, hwi i hi, hr _ (E _ m).1⟩
end CR
theorem cx_T {L L1 : List Nat} {G G1 : Nat → cG} (E : cx L G L1 G1) {a : Nat} (h : cl_T L (gK G) (gr G) (gz G) (gA G) a) : cl_T L1 (gK G1) (gr G1) (gz G1) (gA G1) a := by
  obtain ⟨t1, t2, t3, t4, t5, t6⟩ := h
  unfold cl_T
  rw [gr_e E t1.1, gz_e E t1.1, gn_e E t2.1, gA_e E t2.1]
  exact ⟨cx_O E t1, cx_A E t2, t3, t4, t5, t6⟩
theorem cx_W {L L1 : List Nat} {G G1 : Nat → cG} (E : cx L G L1 G1) {a : Nat} (m0 : gr G a 0 ∈ L) (m1 : gr G a 1 ∈ L) (h : cy_W L (gK G) (gr G) (gA G) a) : cy_W L1 (gK G1) (gr G1) (gA G1) a := by
  obtain ⟨h1, h2⟩ := h
  unfold cy_W
  rw [gr_e E h1.1, gA_e E m0, gA_e E m1]
  exact ⟨cx_O E h1, h2⟩
theorem cc_aside {D : va_G} {A : Nat → Prop} {H : Heap} {C : Nat → ClassId} {X : va_W} {L L2 : List Nat} {G G2 : Nat → cG} (hP : va_P D vwCl ((X ++ cc_w C L2 G2) ++ (cc_w C L G ++ ([] : va_W))) H) (hD : va_D A ((X ++ cc_w C L2 G2) ++ (cc_w C L G ++ ([] : va_W)))) : va_P D vwCl (X ++ (cc_w C L G ++ cc_w C L2 G2)) H ∧ va_D A (X ++ (cc_w C L G ++ cc_w C L2 G2)) := by
  rw [List.append_nil] at hP hD
  rw [← List.append_assoc]
  exact ⟨va_P.swap hP, va_D.swap hD⟩
/-- an array of numbers in the pool -/
noncomputable def cc_K (L : List Nat) (G : Nat → cG) (t n q : Nat) : Prop := q ∈ L ∧ gK G q = .inr (.inl (t, n))
theorem cx_K {L L1 : List Nat} {G G1 : Nat → cG} (E : cx L G L1 G1) {t n q : Nat} (h : cc_K L G t n q) : cc_K L1 G1 t n q := ⟨(E q h.1).1, (gK_e E h.1).trans h.2⟩
/-- a new reader: its own pool, and its game's -/
noncomputable def cc_5 (L : List Nat) (G : Nat → cG) (L2 : List Nat) (G2 : Nat → cG) (a : Nat) : Prop := cw_O L (gK G) 5 a ∧ cc_U L G (fun b o => ∃ k, (k = 4 ∨ k = 9 ∨ k = 10 ∨ k = 11 ∨ k = 12) ∧ b = gr G a k ∧ o = (a, k)) ∧ (cc_K L G 3 2000 (gr G a 4) ∧ cc_K L G 1 400 (gr G a 9) ∧ cc_K L G 1 400 (gr G a 10) ∧ cc_K L G 0 400 (gr G a 11) ∧ cc_K L G 0 400 (gr G a 12)) ∧ (cl_T L (gK G) (gr G) (gz G) (gA G) (gr G a 2) ∧ gz G (gr G a 2) 1 = 0) ∧ cc_R L2 G2 2 (gr G a 3)
theorem cc_S_nil (G : Nat → cG) : cc_S [] G (fun _ _ => False) (fun _ _ => False) := cc_S_imp (cc_U_nil G 0) (fun _ _ h => h) (fun _ _ h => h.elim)
section TOP
variable {L : List Nat} {G : Nat → cG} {F : Nat → cD} {h : Nat}
theorem cc_gg {t n x : Nat} {g : Nat → Nat} (hk : gK G x = .inr (.inr (t, n, g))) : cw_g (gK G) x = g := by unfold cw_g; rw [hk]
theorem cc_ciR {t ci n x q : Nat} {g : Nat → Nat} (hx : x ∈ L) (hk : gK G x = .inr (.inr (t, n, g))) (hn : n < 2 ^ 31) (hO : ∀ i, i < n → cw_O L (gK G) ci (g i) ∧ (F (g i)).2 = q + i) : ci_R L (gK G) (gq F) t ci n x q := by
  have e : cw_n (gK G) x = n := by unfold cw_n; rw [hk]
  refine ⟨⟨hx, by rw [e]; exact hn, by rw [e, cc_gg hk]; exact hk⟩, e, fun i hi => ?_⟩
  rw [cc_gg hk]
  exact hO i hi
theorem cc_cgA {t n k q : Nat} (hf : gr G h k = q) (hK : cc_K L G t n q) (hn : n < 2 ^ 31) (hw : (F q).1 = (h, k)) (hr : (F q).2 = (F h).2) : cg_A L (gK G) (gr G) (gw F) (gq F) t n h k := by
  have e : cw_n (gK G) q = n := by unfold cw_n; rw [hK.2]
  unfold cg_A gw gq
  rw [hf]
  exact ⟨⟨hK.1, by rw [e]; exact hn, by rw [e]; exact hK.2⟩, e, hw, hr⟩
theorem cc_cgB {n k q : Nat} (hf : gr G h k = q) (hB : cc_B L G n q) (hw : (F q).1 = (h, k)) (hr : (F q).2 = (F h).2) : cg_B L (gK G) (gr G) (gw F) (gq F) n h k := by
  unfold cg_B gw gq
  rw [hf]
  exact ⟨hB.1, hB.2.2, hw, hr⟩
theorem cc_top (pF : cc_P L G F) (hO : cw_O L (gK G) 11 h) (ρh : (F h).2 = 0) (R5 : cw_O L (gK G) 5 (gr G h 0) ∧ (F (gr G h 0)).2 = 1) (Wd : cl_T L (gK G) (gr G) (gz G) (gA G) (gr G (gr G h 0) 2) ∧ (F (gr G (gr G h 0) 2)).2 = 1 ∧ (F (gr G (gr G (gr G h 0) 2) 0)).2 = 1)
    (pr : cg_A L (gK G) (gr G) (gw F) (gq F) 2 642 h 1) (so : cw_O L (gK G) 8 (gr G h 3) ∧ (F (gr G h 3)).2 = 2) (wa : ci_R L (gK G) (gq F) 9 9 2 (gr G h 4) 3) (to : ci_R L (gK G) (gq F) 8 3 2 (gr G h 5) 5) (fo : ci_R L (gK G) (gq F) 8 3 2 (gr G h 6) 7) (re : ci_R L (gK G) (gq F) 6 6 2 (gr G h 7) 9) (tr : cw_O L (gK G) 6 (gr G h 8) ∧ (F (gr G h 8)).2 = 11) (rs : ci_R L (gK G) (gq F) 5 4 4 (gr G h 9) 12) (pb : cw_O L (gK G) 4 (gr G h 10) ∧ (F (gr G h 10)).2 = 16)
    (su : cg_B L (gK G) (gr G) (gw F) (gq F) 32 h 11) (wh : cg_B L (gK G) (gr G) (gw F) (gq F) 32 h 12) (ga : cw_O L (gK G) 2 (gr G h 13) ∧ (F (gr G h 13)).2 = 17) (rg : cw_O L (gK G) 2 (gr G (gr G h 0) 3) ∧ (F (gr G (gr G h 0) 3)).2 = 18) (S3 : ci_S3 L (gK G) (gr G) (gw F) (gq F) h)
    (hw : ∀ i, i < 2 → cy_W L (gK G) (gr G) (gA G) (cw_g (gK G) (gr G h 4) i)) (hres : ∀ i, i < 4 → gz G (cw_g (gK G) (gr G h 9) i) 2 = 0) (z14 : gz G h 14 = 0) (z2 : gz G h 2 = 0) (z15 : gz G h 15 = -1) : ci_C L (gK G) (gr G) (gw F) (gq F) (gz G) (gA G) h := by
  obtain ⟨S1, J⟩ := cc_fin pF
  have h3 := S1.2.2.2.1
  have z0 : ∀ b, cw_O L (gK G) 0 b → gz G b 1 = 0 := fun b hb => (pF.1 0 b hb).2.1
  refine ⟨⟨S1, ⟨⟨hO, ρh⟩, R5, ⟨Wd.1.1, Wd.2.1, Wd.2.2⟩, pr, so, wa, to, fo, re, tr, rs, pb, su, wh, ⟨ga.1, by show 17 ≤ (F (gr G h 13)).2; omega⟩, ⟨rg.1, by show 17 ≤ (F _).2; omega, by show (F _).2 ≠ (F _).2; omega⟩⟩, J, Wd.1, Or.inl z14, fun q => by omega, hw, fun i hi x hx => ?_, fun i hi x hx => ?_, fun i hi => ⟨Or.inl (hres i hi), fun q => by have := hres i hi; omega⟩, by omega, by rw [z15]; decide⟩, S3⟩
  · have q := ((h3 _ (to.2.2 i hi).1).1.2.2.2 x hx).1
    rw [z0 _ q]
    decide
  · have q := ((h3 _ (fo.2.2 i hi).1).1.2.2.2 x hx).1
    unfold cb_u
    rw [z0 _ q]
    exact Int.le_of_lt cz_M_pos
end TOP
theorem cc_u1 (x : Nat → Int) {i : Nat} (h : (nI i).toNatClampNeg = i) : upd (hz_a x) (nI i).toNatClampNeg 1 = hz_a (hz_u x (i : Int) 1) := by
  rw [h]
  funext k
  simp only [upd, hz_a, hz_u, Int.toNat_natCast]
  split <;> rfl
