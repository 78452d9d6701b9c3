/-- what lies at an address (kind, numbers, references, contents), and who holds it, in which region -/
noncomputable abbrev cG : Type := cw_K × (Nat → Int) × (Nat → Nat) × (Nat → Int)
noncomputable abbrev cD : Type := (Nat × Nat) × Nat
noncomputable def gK (G : Nat → cG) : Nat → cw_K := fun a => (G a).1
noncomputable def gz (G : Nat → cG) : Nat → Nat → Int := fun a => (G a).2.1
noncomputable def gr (G : Nat → cG) : Nat → Nat → Nat := fun a => (G a).2.2.1
noncomputable def gA (G : Nat → cG) : Nat → Nat → Int := fun a => (G a).2.2.2
noncomputable def gw (F : Nat → cD) : Nat → Nat × Nat := fun a => (F a).1
noncomputable def gq (F : Nat → cD) : Nat → Nat := fun a => (F a).2
noncomputable def cc_w (C : Nat → ClassId) (L : List Nat) (G : Nat → cG) : va_W := cw_w C L (gK G) (gz G) (gr G) (gA G)
/-- a pool that has grown -/
noncomputable def cx (L : List Nat) (G : Nat → cG) (L1 : List Nat) (G1 : Nat → cG) : Prop := ∀ a, a ∈ L → a ∈ L1 ∧ G1 a = G a
theorem cx_r (L : List Nat) (G : Nat → cG) : cx L G L G := fun _ h => ⟨h, rfl⟩
theorem cx_t {L L1 L2 : List Nat} {G G1 G2 : Nat → cG} (h1 : cx L G L1 G1) (h2 : cx L1 G1 L2 G2) : cx L G L2 G2 := fun a h => ⟨(h2 a (h1 a h).1).1, (h2 a (h1 a h).1).2.trans (h1 a h).2⟩
theorem cc_push {C : Nat → ClassId} {L : List Nat} {G : Nat → cG} {q : Nat} (k : cw_K) (zz : Nat → Int) (rr : Nat → Nat) (AA : Nat → Int) {e : va_E} (he : e = cw_e C k zz rr AA) (hq : q ∉ L) : ∃ G1 : Nat → cG, (q, e) :: cc_w C L G = cc_w C (q :: L) G1 ∧ G1 q = (k, zz, rr, AA) ∧ cx L G (q :: L) G1 := by
  have ne : ∀ a, a ∈ L → a ≠ q := fun a ha h => hq (by rw [← h]; exact ha)
  refine ⟨lp_U G q (k, zz, rr, AA), ?_, by rw [lp_U_same], fun a ha => ⟨List.mem_cons_of_mem _ ha, lp_U_other (ne a ha)⟩⟩
  unfold cc_w cw_w va_pl
  rw [List.map_cons]
  have e1 : cw_e C (gK (lp_U G q (k, zz, rr, AA)) q) (gz (lp_U G q (k, zz, rr, AA)) q) (gr (lp_U G q (k, zz, rr, AA)) q) (gA (lp_U G q (k, zz, rr, AA)) q) = e := by
    unfold gK gz gr gA
    rw [lp_U_same, he]
  dsimp only
  rw [e1]
  congr 1
  refine List.map_congr_left (fun a ha => ?_)
  have e2 : lp_U G q (k, zz, rr, AA) a = G a := lp_U_other (ne a ha)
  unfold gK gz gr gA
  rw [e2]
theorem cc_app {C : Nat → ClassId} {L1 L2 : List Nat} {G1 G2 : Nat → cG} (hd : ∀ a, a ∈ L1 → a ∉ L2) : ∃ G : Nat → cG, cc_w C L1 G1 ++ cc_w C L2 G2 = cc_w C (L1 ++ L2) G ∧ cx L1 G1 (L1 ++ L2) G ∧ cx L2 G2 (L1 ++ L2) G := by
  refine ⟨fun a => if a ∈ L1 then G1 a else G2 a, ?_, fun a ha => ⟨List.mem_append_left _ ha, if_pos ha⟩, fun a ha => ⟨List.mem_append_right _ ha, if_neg (fun h => hd a h ha)⟩⟩
  unfold cc_w cw_w va_pl
  rw [List.map_append]
  congr 1
  · refine List.map_congr_left (fun a ha => ?_)
    unfold gK gz gr gA
    simp only [if_pos ha]
  · refine List.map_congr_left (fun a ha => ?_)
    have : a ∉ L1 := fun h => hd a h ha
    unfold gK gz gr gA
    simp only [if_neg this]
theorem cc_get {C : Nat → ClassId} {L : List Nat} {G : Nat → cG} {a : Nat} (ha : a ∈ L) : ∃ (i : Nat) (e : va_E), (cc_w C L G)[i]? = some (a, e) := by
  obtain ⟨i, h⟩ := cw_at (C := C) (z := gz G) (r := gr G) (A := gA G) ha (rfl : gK G a = gK G a)
  exact ⟨i, _, h⟩
theorem cc_ne {A : Nat → Prop} {C : Nat → ClassId} {L : List Nat} {G : Nat → cG} {X : va_W} {k q : Nat} {e : va_E} (hD : va_D A (X ++ cc_w C L G)) (hk : X[k]? = some (q, e)) : q ∉ L := by
  intro hq
  obtain ⟨i, e2, h⟩ := cc_get (C := C) (G := G) hq
  have hl : k < X.length := (List.getElem?_eq_some_iff.mp hk).1
  have h1 : (X ++ cc_w C L G)[k]? = some (q, e) := by rw [List.getElem?_append_left hl]; exact hk
  have h2 : (X ++ cc_w C L G)[X.length + i]? = some (q, e2) := by rw [List.getElem?_append_right (by omega), show X.length + i - X.length = i by omega]; exact h
  have := hD.1 _ _ _ _ h1 h2 rfl
  omega
theorem cc_dis {A : Nat → Prop} {C : Nat → ClassId} {L1 L2 : List Nat} {G1 G2 : Nat → cG} {X : va_W} (hD : va_D A (X ++ (cc_w C L1 G1 ++ cc_w C L2 G2))) : ∀ a, a ∈ L1 → a ∉ L2 := by
  intro a h1 h2
  obtain ⟨i, e1, g1⟩ := cc_get (C := C) (G := G1) h1
  obtain ⟨j, e2, g2⟩ := cc_get (C := C) (G := G2) h2
  have hl : i < (cc_w C L1 G1).length := (List.getElem?_eq_some_iff.mp g1).1
  have k1 : (X ++ (cc_w C L1 G1 ++ cc_w C L2 G2))[X.length + i]? = some (a, e1) := by
    rw [List.getElem?_append_right (by omega), show X.length + i - X.length = i by omega, List.getElem?_append_left hl]; exact g1
  have k2 : (X ++ (cc_w C L1 G1 ++ cc_w C L2 G2))[X.length + ((cc_w C L1 G1).length + j)]? = some (a, e2) := by
    rw [List.getElem?_append_right (by omega), show X.length + ((cc_w C L1 G1).length + j) - X.length = (cc_w C L1 G1).length + j by omega, List.getElem?_append_right (by omega), show (cc_w C L1 G1).length + j - (cc_w C L1 G1).length = j by omega]; exact g2
  have := hD.1 _ _ _ _ k1 k2 rfl
  omega
/-- what must hold of an object of class t that is new -/
noncomputable def cc_cl (L : List Nat) (G : Nat → cG) (F : Nat → cD) (t a : Nat) : Prop := match t with
  | 0 => (cw_A L (gK G) 0 (gr G a 0) ∧ (2 ≤ cw_n (gK G) (gr G a 0) ∧ cw_n (gK G) (gr G a 0) ≤ 64) ∧ gw F (gr G a 0) = (a, 0) ∧ gq F (gr G a 0) = gq F a) ∧ gz G a 1 = 0 ∧ gz G a 2 = 0
  | 1 => cg_B L (gK G) (gr G) (gw F) (gq F) 32 a 0
  | 2 => cg_A L (gK G) (gr G) (gw F) (gq F) 0 4 a 0 ∧ (cw_G L (gK G) 7 (gr G a 1) ∧ cw_n (gK G) (gr G a 1) = 2 ∧ ∀ i, i < 2 → cw_O L (gK G) 7 (cw_g (gK G) (gr G a 1) i) ∧ gw F (cw_g (gK G) (gr G a 1) i) = (gr G a 1, i) ∧ gq F (cw_g (gK G) (gr G a 1) i) = gq F a) ∧ (cw_G L (gK G) 10 (gr G a 3) ∧ cw_n (gK G) (gr G a 3) = 20 ∧ ∀ i, i < 20 → cw_A L (gK G) 1 (cw_g (gK G) (gr G a 3) i) ∧ cw_n (gK G) (cw_g (gK G) (gr G a 3) i) = 20 ∧ gw F (cw_g (gK G) (gr G a 3) i) = (gr G a 3, i) ∧ gq F (cw_g (gK G) (gr G a 3) i) = gq F a)
  | 3 => cg_L L (gK G) (gr G) (gw F) (gq F) 20 32 a 0 ∧ cg_B L (gK G) (gr G) (gw F) (gq F) 32 a 1
  | 4 => cg_B L (gK G) (gr G) (gw F) (gq F) 32 a 0 ∧ cg_B L (gK G) (gr G) (gw F) (gq F) 32 a 1 ∧ cg_B L (gK G) (gr G) (gw F) (gq F) 64 a 3 ∧ cg_B L (gK G) (gr G) (gw F) (gq F) 64 a 4 ∧ cg_O L (gK G) (gr G) (gw F) (gq F) 1 a 5
  | 6 => cg_A L (gK G) (gr G) (gw F) (gq F) 0 10 a 0 ∧ cg_A L (gK G) (gr G) (gw F) (gq F) 3 10 a 1 ∧ cg_L L (gK G) (gr G) (gw F) (gq F) 20 32 a 2 ∧ cg_B L (gK G) (gr G) (gw F) (gq F) 2 a 3 ∧ cg_B L (gK G) (gr G) (gw F) (gq F) 64 a 4
  | 7 => cg_A L (gK G) (gr G) (gw F) (gq F) 0 10 a 1 ∧ cg_A L (gK G) (gr G) (gw F) (gq F) 0 10 a 2 ∧ cg_A L (gK G) (gr G) (gw F) (gq F) 0 10 a 3 ∧ cg_A L (gK G) (gr G) (gw F) (gq F) 0 10 a 4 ∧ cg_A L (gK G) (gr G) (gw F) (gq F) 0 10 a 6 ∧ cg_A L (gK G) (gr G) (gw F) (gq F) 0 10 a 7
  | 8 => cg_L L (gK G) (gr G) (gw F) (gq F) 900 32 a 0 ∧ cg_A L (gK G) (gr G) (gw F) (gq F) 0 30 a 1 ∧ cg_A L (gK G) (gr G) (gw F) (gq F) 0 30 a 2 ∧ cg_A L (gK G) (gr G) (gw F) (gq F) 1 10 a 3 ∧ cg_B L (gK G) (gr G) (gw F) (gq F) 32 a 9 ∧ cg_B L (gK G) (gr G) (gw F) (gq F) 64 a 10 ∧ cg_B L (gK G) (gr G) (gw F) (gq F) 64 a 11 ∧ cg_O L (gK G) (gr G) (gw F) (gq F) 1 a 12
  | 9 => cg_A L (gK G) (gr G) (gw F) (gq F) 0 40 a 0 ∧ cg_A L (gK G) (gr G) (gw F) (gq F) 0 40 a 1 ∧ cg_A L (gK G) (gr G) (gw F) (gq F) 0 10 a 2
  | _ => True
theorem gK_e {L L1 : List Nat} {G G1 : Nat → cG} (E : cx L G L1 G1) {x : Nat} (h : x ∈ L) : gK G1 x = gK G x := by unfold gK; rw [(E x h).2]
theorem gz_e {L L1 : List Nat} {G G1 : Nat → cG} (E : cx L G L1 G1) {x : Nat} (h : x ∈ L) : gz G1 x = gz G x := by unfold gz; rw [(E x h).2]
theorem gr_e {L L1 : List Nat} {G G1 : Nat → cG} (E : cx L G L1 G1) {x : Nat} (h : x ∈ L) : gr G1 x = gr G x := by unfold gr; rw [(E x h).2]
theorem gA_e {L L1 : List Nat} {G G1 : Nat → cG} (E : cx L G L1 G1) {x : Nat} (h : x ∈ L) : gA G1 x = gA G x := by unfold gA; rw [(E x h).2]
theorem gn_e {L L1 : List Nat} {G G1 : Nat → cG} (E : cx L G L1 G1) {x : Nat} (h : x ∈ L) : cw_n (gK G1) x = cw_n (gK G) x := by unfold cw_n; rw [gK_e E h]
theorem gg_e {L L1 : List Nat} {G G1 : Nat → cG} (E : cx L G L1 G1) {x : Nat} (h : x ∈ L) : cw_g (gK G1) x = cw_g (gK G) x := by unfold cw_g; rw [gK_e E h]
theorem cx_O {L L1 : List Nat} {G G1 : Nat → cG} (E : cx L G L1 G1) {t x : Nat} (h : cw_O L (gK G) t x) : cw_O L1 (gK G1) t x := ⟨(E x h.1).1, by rw [gK_e E h.1]; exact h.2⟩
theorem cx_A {L L1 : List Nat} {G G1 : Nat → cG} (E : cx L G L1 G1) {t x : Nat} (h : cw_A L (gK G) t x) : cw_A L1 (gK G1) t x := ⟨(E x h.1).1, by rw [gn_e E h.1]; exact h.2.1, by rw [gK_e E h.1, gn_e E h.1]; exact h.2.2⟩
theorem cx_G {L L1 : List Nat} {G G1 : Nat → cG} (E : cx L G L1 G1) {t x : Nat} (h : cw_G L (gK G) t x) : cw_G L1 (gK G1) t x := ⟨(E x h.1).1, by rw [gn_e E h.1]; exact h.2.1, by rw [gK_e E h.1, gn_e E h.1, gg_e E h.1]; exact h.2.2⟩
/-- a Big, with its digits -/
noncomputable def cc_B (L : List Nat) (G : Nat → cG) (n b : Nat) : Prop := cw_O L (gK G) 0 b ∧ gr G b 0 ∈ L ∧ cw_n (gK G) (gr G b 0) = n
theorem cx_B {L L1 : List Nat} {G G1 : Nat → cG} (E : cx L G L1 G1) {n b : Nat} (h : cc_B L G n b) : cc_B L1 G1 n b := ⟨cx_O E h.1, by rw [gr_e E h.1.1]; exact (E _ h.2.1).1, by rw [gr_e E h.1.1, gn_e E h.2.1]; exact h.2.2⟩
section CM
variable {L L1 : List Nat} {G G1 : Nat → cG} {F F1 : Nat → cD}
theorem cm_A (E : cx L G L1 G1) (EF : ∀ x, x ∈ L → F1 x = F x) {t n a k : Nat} (ha : a ∈ L) (q : cg_A L (gK G) (gr G) (gw F) (gq F) t n a k) : cg_A L1 (gK G1) (gr G1) (gw F1) (gq F1) t n a k := by
  unfold cg_A gw gq at q ⊢
  rw [gr_e E ha, gn_e E q.1.1, EF _ q.1.1, EF a ha]
  exact ⟨cx_A E q.1, q.2⟩
theorem cm_O (E : cx L G L1 G1) (EF : ∀ x, x ∈ L → F1 x = F x) {t a k : Nat} (ha : a ∈ L) (q : cg_O L (gK G) (gr G) (gw F) (gq F) t a k) : cg_O L1 (gK G1) (gr G1) (gw F1) (gq F1) t a k := by
  unfold cg_O gw gq at q ⊢
  rw [gr_e E ha, EF _ q.1.1, EF a ha]
  exact ⟨cx_O E q.1, q.2⟩
theorem cm_B (E : cx L G L1 G1) (EF : ∀ x, x ∈ L → F1 x = F x) (hd : ∀ b, cw_O L (gK G) 0 b → gr G b 0 ∈ L) {n a k : Nat} (ha : a ∈ L) (q : cg_B L (gK G) (gr G) (gw F) (gq F) n a k) : cg_B L1 (gK G1) (gr G1) (gw F1) (gq F1) n a k := by
  unfold cg_B gw gq at q ⊢
  rw [gr_e E ha, gr_e E q.1.1, gn_e E (hd _ q.1), EF _ q.1.1, EF a ha]
  exact ⟨cx_O E q.1, q.2⟩
theorem cm_L (E : cx L G L1 G1) (EF : ∀ x, x ∈ L → F1 x = F x) (hd : ∀ b, cw_O L (gK G) 0 b → gr G b 0 ∈ L) {N n a k : Nat} (ha : a ∈ L) (q : cg_L L (gK G) (gr G) (gw F) (gq F) N n a k) : cg_L L1 (gK G1) (gr G1) (gw F1) (gq F1) N n a k := by
  unfold cg_L gw gq at q ⊢
  rw [gr_e E ha, gn_e E q.1.1, gg_e E q.1.1, EF _ q.1.1, EF a ha]
  refine ⟨cx_G E q.1, q.2.1, q.2.2.1, fun i hi => ?_⟩
  have q9 := q.2.2.2 i hi
  rw [gr_e E q9.1.1, gn_e E (hd _ q9.1), EF _ q9.1.1]
  exact ⟨cx_O E q9.1, q9.2⟩
theorem cc_cl_mono (E : cx L G L1 G1) (EF : ∀ x, x ∈ L → F1 x = F x) (hd : ∀ b, cw_O L (gK G) 0 b → gr G b 0 ∈ L) {t a : Nat} (ha : a ∈ L) (h : cc_cl L G F t a) : cc_cl L1 G1 F1 t a := by
  match t, h with
  | 0, h =>
    obtain ⟨⟨h1, h2, h3, h4⟩, h5, h6⟩ := h
    have e := gr_e E ha
    refine ⟨⟨?_, ?_, ?_, ?_⟩, by rw [gz_e E ha]; exact h5, by rw [gz_e E ha]; exact h6⟩
    · rw [e]; exact cx_A E h1
    · rw [e, gn_e E h1.1]; exact h2
    · unfold gw at h3 ⊢; rw [e, EF _ h1.1]; exact h3
    · unfold gq at h4 ⊢; rw [e, EF _ h1.1, EF a ha]; exact h4
  | 1, h => exact cm_B E EF hd ha h
  | 2, h =>
    obtain ⟨h1, ⟨h2, h3, h4⟩, ⟨h5, h6, h7⟩⟩ := h
    have e := gr_e E ha
    refine ⟨cm_A E EF ha h1, ?_, ?_⟩
    · unfold gw gq at h4 ⊢
      rw [e, gn_e E h2.1, gg_e E h2.1, EF a ha]
      refine ⟨cx_G E h2, h3, fun i hi => ?_⟩
      have q := h4 i hi
      rw [EF _ q.1.1]
      exact ⟨cx_O E q.1, q.2⟩
    · unfold gw gq at h7 ⊢
      rw [e, gn_e E h5.1, gg_e E h5.1, EF a ha]
      refine ⟨cx_G E h5, h6, fun i hi => ?_⟩
      have q := h7 i hi
      rw [EF _ q.1.1, gn_e E q.1.1]
      exact ⟨cx_A E q.1, q.2⟩
  | 3, h => exact ⟨cm_L E EF hd ha h.1, cm_B E EF hd ha h.2⟩
  | 4, h => exact ⟨cm_B E EF hd ha h.1, cm_B E EF hd ha h.2.1, cm_B E EF hd ha h.2.2.1, cm_B E EF hd ha h.2.2.2.1, cm_O E EF ha h.2.2.2.2⟩
  | 5, _ => exact True.intro
  | 6, h => exact ⟨cm_A E EF ha h.1, cm_A E EF ha h.2.1, cm_L E EF hd ha h.2.2.1, cm_B E EF hd ha h.2.2.2.1, cm_B E EF hd ha h.2.2.2.2⟩
  | 7, h => exact ⟨cm_A E EF ha h.1, cm_A E EF ha h.2.1, cm_A E EF ha h.2.2.1, cm_A E EF ha h.2.2.2.1, cm_A E EF ha h.2.2.2.2.1, cm_A E EF ha h.2.2.2.2.2⟩
  | 8, h => exact ⟨cm_L E EF hd ha h.1, cm_A E EF ha h.2.1, cm_A E EF ha h.2.2.1, cm_A E EF ha h.2.2.2.1, cm_B E EF hd ha h.2.2.2.2.1, cm_B E EF hd ha h.2.2.2.2.2.1, cm_B E EF hd ha h.2.2.2.2.2.2.1, cm_O E EF ha h.2.2.2.2.2.2.2⟩
  | 9, h => exact ⟨cm_A E EF ha h.1, cm_A E EF ha h.2.1, cm_A E EF ha h.2.2⟩
  | n + 10, _ => exact True.intro
end CM
/-- a pool of whole objects -/
noncomputable def cc_P (L : List Nat) (G : Nat → cG) (F : Nat → cD) : Prop := (∀ t a, cw_O L (gK G) t a → cc_cl L G F t a) ∧ cr_A L (gK G) (gA G)
theorem cc_P_d {L : List Nat} {G : Nat → cG} {F : Nat → cD} (h : cc_P L G F) : ∀ b, cw_O L (gK G) 0 b → gr G b 0 ∈ L := fun b hb => (h.1 0 b hb).1.1.1
/-- .. with who holds it, by Own, in which region, by Reg -/
noncomputable def cc_S (L : List Nat) (G : Nat → cG) (Own : Nat → Nat × Nat → Prop) (Reg : Nat → Nat → Prop) : Prop := ∃ F : Nat → cD, cc_P L G F ∧ (∀ b o, Own b o → b ∈ L ∧ (F b).1 = o) ∧ ∀ b c, Reg b c → b ∈ L ∧ (F b).2 = c
noncomputable def cO {α : Type} (q : Nat) (v : α) (P : Nat → α → Prop) : Nat → α → Prop := fun b x => (b = q ∧ x = v) ∨ P b x
theorem cc_S_imp {L : List Nat} {G : Nat → cG} {O O' : Nat → Nat × Nat → Prop} {R R' : Nat → Nat → Prop} (h : cc_S L G O R) (hO : ∀ b o, O' b o → O b o) (hR : ∀ b c, R' b c → R b c) : cc_S L G O' R' := by
  obtain ⟨F, p, f1, f2⟩ := h
  exact ⟨F, p, fun b o q => f1 b o (hO b o q), fun b c q => f2 b c (hR b c q)⟩
theorem cc_S_push {L : List Nat} {G G1 : Nat → cG} {O : Nat → Nat × Nat → Prop} {R : Nat → Nat → Prop} {q : Nat} (h : cc_S L G O R) (hq : q ∉ L) (E : cx L G (q :: L) G1) (o : Nat × Nat) (c : Nat) (hcl : ∀ F : Nat → cD, (∀ b o, O b o → b ∈ L ∧ (F b).1 = o) → (∀ b c, R b c → b ∈ L ∧ (F b).2 = c) → F q = (o, c) → (∀ b, cw_O L (gK G) 0 b → gr G b 0 ∈ L) → ∀ t, gK G1 q = .inl t → cc_cl (q :: L) G1 F t q) (hr : ∀ t n, gK G1 q = .inr (.inl (t, n)) → ∀ i, (t = 0 → hz_rI (gA G1 q i)) ∧ (t = 1 → hz_rL (gA G1 q i)) ∧ (t = 2 → 0 ≤ gA G1 q i ∧ gA G1 q i < 65536) ∧ (t = 3 → gA G1 q i = 0 ∨ gA G1 q i = 1)) : cc_S (q :: L) G1 (cO q o O) (cO q c R) := by
  obtain ⟨F, p, f1, f2⟩ := h
  have ne : ∀ a, a ∈ L → a ≠ q := fun a ha h => hq (by rw [← h]; exact ha)
  have EF : ∀ x, x ∈ L → lp_U F q (o, c) x = F x := fun x hx => lp_U_other (ne x hx)
  have g1 : ∀ b o', O b o' → b ∈ L ∧ (lp_U F q (o, c) b).1 = o' := fun b o' hb => ⟨(f1 b o' hb).1, by rw [EF _ (f1 b o' hb).1]; exact (f1 b o' hb).2⟩
  have g2 : ∀ b c', R b c' → b ∈ L ∧ (lp_U F q (o, c) b).2 = c' := fun b c' hb => ⟨(f2 b c' hb).1, by rw [EF _ (f2 b c' hb).1]; exact (f2 b c' hb).2⟩
  have sQ : lp_U F q (o, c) q = (o, c) := by rw [lp_U_same]
  refine ⟨lp_U F q (o, c), ⟨fun t a ha => ?_, fun x => ?_⟩, fun b o' hb => ?_, fun b c' hb => ?_⟩
  · by_cases e : a = q
    · subst e
      exact hcl _ g1 g2 sQ (cc_P_d p) t ha.2
    · have hl : a ∈ L := (List.mem_cons.mp ha.1).resolve_left e
      exact cc_cl_mono E EF (cc_P_d p) hl (p.1 t a ⟨hl, by rw [← gK_e E hl]; exact ha.2⟩)
  · by_cases e : x = q
    · subst e
      refine ⟨fun w i => (hr _ _ w.2.2 i).1 rfl, fun w i => (hr _ _ w.2.2 i).2.1 rfl, fun w i => (hr _ _ w.2.2 i).2.2.1 rfl, fun w i => (hr _ _ w.2.2 i).2.2.2 rfl⟩
    · have k : ∀ t, cw_A (q :: L) (gK G1) t x → cw_A L (gK G) t x := fun t w => by
        have hl : x ∈ L := (List.mem_cons.mp w.1).resolve_left e
        exact ⟨hl, by rw [← gn_e E hl]; exact w.2.1, by rw [← gK_e E hl, ← gn_e E hl]; exact w.2.2⟩
      have ea : ∀ t, cw_A (q :: L) (gK G1) t x → gA G1 x = gA G x := fun t w => gA_e E ((k t w).1)
      refine ⟨fun w i => by rw [ea 0 w]; exact (p.2 x).1 (k 0 w) i, fun w i => by rw [ea 1 w]; exact (p.2 x).2.1 (k 1 w) i, fun w i => by rw [ea 2 w]; exact (p.2 x).2.2.1 (k 2 w) i, fun w i => by rw [ea 3 w]; exact (p.2 x).2.2.2 (k 3 w) i⟩
  · rcases hb with ⟨rfl, rfl⟩ | hb
    · exact ⟨List.mem_cons_self, by rw [sQ]⟩
    · exact ⟨List.mem_cons_of_mem _ (g1 b o' hb).1, (g1 b o' hb).2⟩
  · rcases hb with ⟨rfl, rfl⟩ | hb
    · exact ⟨List.mem_cons_self, by rw [sQ]⟩
    · exact ⟨List.mem_cons_of_mem _ (g2 b c' hb).1, (g2 b c' hb).2⟩
theorem cc_S_join {L1 L2 : List Nat} {G1 G2 G : Nat → cG} {O1 O2 : Nat → Nat × Nat → Prop} {R1 R2 : Nat → Nat → Prop} (h1 : cc_S L1 G1 O1 R1) (h2 : cc_S L2 G2 O2 R2) (hd : ∀ a, a ∈ L1 → a ∉ L2) (E1 : cx L1 G1 (L1 ++ L2) G) (E2 : cx L2 G2 (L1 ++ L2) G) : cc_S (L1 ++ L2) G (fun b o => O1 b o ∨ O2 b o) (fun b c => R1 b c ∨ R2 b c) := by
  obtain ⟨F1, p1, f1, g1⟩ := h1
  obtain ⟨F2, p2, f2, g2⟩ := h2
  have e1 : ∀ x, x ∈ L1 → (fun a => if a ∈ L1 then F1 a else F2 a) x = F1 x := fun x hx => if_pos hx
  have e2 : ∀ x, x ∈ L2 → (fun a => if a ∈ L1 then F1 a else F2 a) x = F2 x := fun x hx => if_neg (fun h => hd x h hx)
  refine ⟨fun a => if a ∈ L1 then F1 a else F2 a, ⟨fun t a ha => ?_, fun x => ?_⟩, fun b o hb => ?_, fun b c hb => ?_⟩
  · rcases List.mem_append.mp ha.1 with hl | hl
    · exact cc_cl_mono E1 e1 (cc_P_d p1) hl (p1.1 t a ⟨hl, by rw [← gK_e E1 hl]; exact ha.2⟩)
    · exact cc_cl_mono E2 e2 (cc_P_d p2) hl (p2.1 t a ⟨hl, by rw [← gK_e E2 hl]; exact ha.2⟩)
  · by_cases m1 : x ∈ L1
    · have k : ∀ t, cw_A (L1 ++ L2) (gK G) t x → cw_A L1 (gK G1) t x := fun t w => ⟨m1, by rw [← gn_e E1 m1]; exact w.2.1, by rw [← gK_e E1 m1, ← gn_e E1 m1]; exact w.2.2⟩
      rw [gA_e E1 m1]
      exact ⟨fun w => (p1.2 x).1 (k 0 w), fun w => (p1.2 x).2.1 (k 1 w), fun w => (p1.2 x).2.2.1 (k 2 w), fun w => (p1.2 x).2.2.2 (k 3 w)⟩
    · by_cases m2 : x ∈ L2
      · have k : ∀ t, cw_A (L1 ++ L2) (gK G) t x → cw_A L2 (gK G2) t x := fun t w => ⟨m2, by rw [← gn_e E2 m2]; exact w.2.1, by rw [← gK_e E2 m2, ← gn_e E2 m2]; exact w.2.2⟩
        rw [gA_e E2 m2]
        exact ⟨fun w => (p2.2 x).1 (k 0 w), fun w => (p2.2 x).2.1 (k 1 w), fun w => (p2.2 x).2.2.1 (k 2 w), fun w => (p2.2 x).2.2.2 (k 3 w)⟩
      · have no : ∀ t, ¬ cw_A (L1 ++ L2) (gK G) t x := fun t w => (List.mem_append.mp w.1).elim m1 m2
        exact ⟨fun w => absurd w (no 0), fun w => absurd w (no 1), fun w => absurd w (no 2), fun w => absurd w (no 3)⟩
  · rcases hb with hb | hb
    · exact ⟨List.mem_append_left _ (f1 b o hb).1, by rw [e1 _ (f1 b o hb).1]; exact (f1 b o hb).2⟩
    · exact ⟨List.mem_append_right _ (f2 b o hb).1, by rw [e2 _ (f2 b o hb).1]; exact (f2 b o hb).2⟩
  · rcases hb with hb | hb
    · exact ⟨List.mem_append_left _ (g1 b c hb).1, by rw [e1 _ (g1 b c hb).1]; exact (g1 b c hb).2⟩
    · exact ⟨List.mem_append_right _ (g2 b c hb).1, by rw [e2 _ (g2 b c hb).1]; exact (g2 b c hb).2⟩
/-- a pool of one region, whichever -/
noncomputable def cc_U (L : List Nat) (G : Nat → cG) (Own : Nat → Nat × Nat → Prop) : Prop := ∀ c, cc_S L G Own (fun b c' => b ∈ L ∧ c' = c)
theorem cc_U_nil (G : Nat → cG) : cc_U [] G (fun _ _ => False) := fun c => ⟨fun _ => ((0, 0), 0), ⟨fun t a ha => absurd ha.1 List.not_mem_nil, fun x => ⟨fun w => absurd w.1 List.not_mem_nil, fun w => absurd w.1 List.not_mem_nil, fun w => absurd w.1 List.not_mem_nil, fun w => absurd w.1 List.not_mem_nil⟩⟩, fun b o h => h.elim, fun b c' h => absurd h.1 List.not_mem_nil⟩
theorem cc_U_imp {L : List Nat} {G : Nat → cG} {O O' : Nat → Nat × Nat → Prop} (h : cc_U L G O) (hO : ∀ b o, O' b o → O b o) : cc_U L G O' := fun c => cc_S_imp (h c) hO (fun _ _ q => q)
/-- an array -/
theorem cc_U_arr {L : List Nat} {G G1 : Nat → cG} {O : Nat → Nat × Nat → Prop} {q : Nat} (h : cc_U L G O) (hq : q ∉ L) (E : cx L G (q :: L) G1) (o : Nat × Nat) (hk : ∀ t, ¬ gK G1 q = .inl t) (hr : ∀ t n, gK G1 q = .inr (.inl (t, n)) → ∀ i, (t = 0 → hz_rI (gA G1 q i)) ∧ (t = 1 → hz_rL (gA G1 q i)) ∧ (t = 2 → 0 ≤ gA G1 q i ∧ gA G1 q i < 65536) ∧ (t = 3 → gA G1 q i = 0 ∨ gA G1 q i = 1)) : cc_U (q :: L) G1 (cO q o O) := by
  intro c
  refine cc_S_imp (cc_S_push (h c) hq E o c (fun F _ _ _ _ t ht => absurd ht (hk t)) hr) (fun _ _ q => q) (fun b c' hb => ?_)
  rcases List.mem_cons.mp hb.1 with e | e
  · exact Or.inl ⟨e, hb.2⟩
  · exact Or.inr ⟨e, hb.2⟩
/-- an object -/
theorem cc_U_obj {L : List Nat} {G G1 : Nat → cG} {O : Nat → Nat × Nat → Prop} {q : Nat} (h : cc_U L G O) (hq : q ∉ L) (E : cx L G (q :: L) G1) (o : Nat × Nat) {t : Nat} (hk : gK G1 q = .inl t) (hcl : ∀ F : Nat → cD, (∀ b o, O b o → b ∈ L ∧ (F b).1 = o) → (∀ x, x ∈ q :: L → (F x).2 = (F q).2) → (∀ b, cw_O L (gK G) 0 b → gr G b 0 ∈ L) → cc_cl (q :: L) G1 F t q) : cc_U (q :: L) G1 (cO q o O) := by
  intro c
  refine cc_S_imp (cc_S_push (h c) hq E o c (fun F f1 f2 fq hd t' ht => ?_) (fun t n ht => by rw [hk] at ht; cases ht)) (fun _ _ q => q) (fun b c' hb => ?_)
  · rw [hk] at ht
    cases ht
    refine hcl F f1 (fun x hx => ?_) hd
    rcases List.mem_cons.mp hx with e | e
    · rw [e]
    · rw [(f2 x c ⟨e, rfl⟩).2, fq]
  · rcases List.mem_cons.mp hb.1 with e | e
    · exact Or.inl ⟨e, hb.2⟩
    · exact Or.inr ⟨e, hb.2⟩
theorem cc_U_join {L1 L2 : List Nat} {G1 G2 G : Nat → cG} {O1 O2 : Nat → Nat × Nat → Prop} (h1 : cc_U L1 G1 O1) (h2 : cc_U L2 G2 O2) (hd : ∀ a, a ∈ L1 → a ∉ L2) (E1 : cx L1 G1 (L1 ++ L2) G) (E2 : cx L2 G2 (L1 ++ L2) G) : cc_U (L1 ++ L2) G (fun b o => O1 b o ∨ O2 b o) := fun c => cc_S_imp (cc_S_join (h1 c) (h2 c) hd E1 E2) (fun _ _ q => q) (fun b c' hb => by
  rcases List.mem_append.mp hb.1 with e | e
  · exact Or.inl ⟨e, hb.2⟩
  · exact Or.inr ⟨e, hb.2⟩)
/-- one whole object, its root -/
noncomputable def cc_R (L : List Nat) (G : Nat → cG) (t a : Nat) : Prop := cw_O L (gK G) t a ∧ ∀ o, cc_U L G (fun b o' => b = a ∧ o' = o)
section CL
variable {L : List Nat} {G G1 : Nat → cG} {F : Nat → cD} {a : Nat}
/-- a field's array, Big, object, row of Bigs -/
theorem cl_A {t n k q : Nat} (E : cx L G (a :: L) G1) (hn : n < 2 ^ 31) (hf : gr G1 a k = q) (hq : q ∈ L) (hk : gK G q = .inr (.inl (t, n))) (hw : (F q).1 = (a, k)) (hr : ∀ x, x ∈ a :: L → (F x).2 = (F a).2) : cg_A (a :: L) (gK G1) (gr G1) (gw F) (gq F) t n a k := by
  have e : cw_n (gK G1) q = n := by rw [gn_e E hq]; unfold cw_n; rw [hk]
  unfold cg_A gw gq
  rw [hf]
  exact ⟨⟨(E q hq).1, by rw [e]; exact hn, by rw [gK_e E hq, e]; exact hk⟩, e, hw, hr q (E q hq).1⟩
theorem cl_B {n k q : Nat} (E : cx L G (a :: L) G1) (hf : gr G1 a k = q) (hB : cc_B L G n q) (hw : (F q).1 = (a, k)) (hr : ∀ x, x ∈ a :: L → (F x).2 = (F a).2) : cg_B (a :: L) (gK G1) (gr G1) (gw F) (gq F) n a k := by
  have b := cx_B E hB
  unfold cg_B gw gq
  rw [hf]
  exact ⟨b.1, b.2.2, hw, hr q b.1.1⟩
theorem cl_O {t k q : Nat} (E : cx L G (a :: L) G1) (hf : gr G1 a k = q) (hO : cw_O L (gK G) t q) (hw : (F q).1 = (a, k)) (hr : ∀ x, x ∈ a :: L → (F x).2 = (F a).2) : cg_O (a :: L) (gK G1) (gr G1) (gw F) (gq F) t a k := by
  have b := cx_O E hO
  unfold cg_O gw gq
  rw [hf]
  exact ⟨b, hw, hr q b.1⟩
theorem cl_L {N n k q : Nat} {g : Nat → Nat} (E : cx L G (a :: L) G1) (hn : N < 2 ^ 31) (hf : gr G1 a k = q) (hq : q ∈ L) (hk : gK G q = .inr (.inr (4, N, g))) (hw : (F q).1 = (a, k)) (hB : ∀ i, i < N → cc_B L G n (g i)) (hwi : ∀ i, i < N → (F (g i)).1 = (q, i)) (hr : ∀ x, x ∈ a :: L → (F x).2 = (F a).2) : cg_L (a :: L) (gK G1) (gr G1) (gw F) (gq F) N n a k := by
  have e : cw_n (gK G1) q = N := by rw [gn_e E hq]; unfold cw_n; rw [hk]
  have e2 : cw_g (gK G1) q = g := by rw [gg_e E hq]; unfold cw_g; rw [hk]
  unfold cg_L gw gq
  rw [hf, e2]
  refine ⟨⟨(E q hq).1, by rw [e]; exact hn, by rw [gK_e E hq, e, e2]; exact hk⟩, e, hw, fun i hi => ?_⟩
  have b := cx_B E (hB i hi)
  exact ⟨b.1, b.2.2, hwi i hi, hr _ b.1.1⟩
end CL
/-- the pool's objects keep to all shapes, its numbers are well formed -/
theorem cc_fin {L : List Nat} {G : Nat → cG} {F : Nat → cD} (h : cc_P L G F) : ci_S1 L (gK G) (gr G) (gw F) (gq F) ∧ cJ L (gK G) (gr G) (gz G) (gA G) := by
  obtain ⟨h1, h2⟩ := h
  refine ⟨⟨fun a ha => (h1 0 a ha).1.2.2.1, ⟨fun a ha => (h1 0 a ha).1.2.2.2, fun a ha => h1 1 a ha⟩, fun a ha => h1 2 a ha, fun a ha => h1 3 a ha, fun a ha => h1 4 a ha, fun a ha => h1 6 a ha, fun a ha => h1 7 a ha, fun a ha => h1 8 a ha, fun a ha => h1 9 a ha⟩, ⟨⟨fun b hb => ?_, fun b c hb hc q => ?_⟩, fun b hb => ?_⟩, h2⟩
  · obtain ⟨⟨a1, a2, a3, a4⟩, -⟩ := h1 0 b hb
    exact ⟨a1, a2, (h2 _).1 a1⟩
  · have e1 := (h1 0 b hb).1.2.2.1
    have e2 := (h1 0 c hc).1.2.2.1
    rw [q] at e1
    have := e1.symm.trans e2
    simp at this
    exact this
  · obtain ⟨⟨a1, a2, a3, a4⟩, z1, z2⟩ := h1 0 b hb
    refine ⟨by omega, Or.inl z2, fun q => by omega, fun _ => z2⟩
/-- the array classes are the tables' -/
theorem cc_RA {U : State} {c d : ClassId} {ty : FieldType} (h1 : va_RA U c ty) (h2 : va_RA U d ty) : c = d := by
  cases ty with
  | object C =>
    obtain ⟨-, -, -, -, -, h1⟩ := h1
    obtain ⟨-, -, -, -, -, h2⟩ := h2
    rw [h1] at h2
    exact Option.some.inj h2
  | _ =>
    have h1 : U.vm.findClass _ = some c := h1
    have h2 : U.vm.findClass _ = some d := h2
    rw [h1] at h2
    exact Option.some.inj h2
theorem cc_cA {D : va_G} {s : State} {C : Nat → ClassId} {cA : ClassId} {ty : FieldType} (hK : va_K D vwCl (cw_t C ++ [(cA, ty)]) s) (t : Nat) (ht : (cw_t C)[t]? = some (C t, ty)) : cA = C t := by
  have hl : t < (cw_t C).length := (List.getElem?_eq_some_iff.mp ht).1
  have k1 := hK.2 t (C t, ty) (by rw [List.getElem?_append_left hl]; exact ht)
  have k2 := hK.2 (cw_t C).length (cA, ty) (by rw [List.getElem?_append_right (Nat.le_refl _), Nat.sub_self]; rfl)
  exact cc_RA k2.2 k1.2
/-- a row of objects, filled up to i -/
noncomputable def cc_f (n : Nat) (g : Nat → Nat) : Nat → Option Nat := fun i => if i < n then some (g i) else none
theorem cc_f0 (g : Nat → Nat) : (fun _ => none : Nat → Option Nat) = cc_f 0 g := by
  funext i
  unfold cc_f
  rw [if_neg (by omega)]
theorem cc_f1 {n b : Nat} {g : Nat → Nat} (hn : (nI n).toNatClampNeg = n) : va_up (cc_f n g) (nI n).toNatClampNeg (some b) = cc_f (n + 1) (lp_U g n b) := by
  rw [hn]
  funext i
  unfold cc_f va_up
  by_cases e : i = n
  · rw [if_pos e, if_pos (by omega), e, lp_U_same]
  · rw [if_neg e]
    dsimp only
    by_cases h : i < n
    · rw [if_pos h, if_pos (by omega), lp_U_other e]
    · rw [if_neg h, if_neg (by omega)]
