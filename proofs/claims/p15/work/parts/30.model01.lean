-- 38.choose
theorem lp_frac_lt' {a b x y u v : Int} (hy : 0 < y) (hb : 0 < b) (hv : 0 < v) (h1 : a * y < x * b) (h2 : x * v ≤ u * y) : a * v < u * b := by
  have k1 := Int.mul_lt_mul_of_pos_right h1 hv
  have k2 := Int.mul_le_mul_of_nonneg_right h2 (show 0 ≤ b by omega)
  have e1 : a * y * v = y * (a * v) := by grind
  have e2 : x * b * v = x * v * b := by grind
  have e3 : u * y * b = y * (u * b) := by grind
  exact Int.lt_of_mul_lt_mul_left (by omega) (by omega : 0 ≤ y)
theorem hb_sgn_lt {A : Nat → Nat → Int} {w : Int} : (hb_v A w).sign < 0 ↔ hb_v A w < 0 := by
  rcases hb_sign_cases (hb_v A w) with ⟨a, b⟩ | ⟨a, b⟩ | ⟨a, b⟩ <;> omega
theorem hb_sgn_gt {A : Nat → Nat → Int} {w : Int} : 0 < (hb_v A w).sign ↔ 0 < hb_v A w := by
  rcases hb_sign_cases (hb_v A w) with ⟨a, b⟩ | ⟨a, b⟩ | ⟨a, b⟩ <;> omega
theorem hb_sgn_r (x : Int) : hz_rI x.sign := by
  rcases hb_sign_cases x with ⟨a, b⟩ | ⟨a, b⟩ | ⟨a, b⟩ <;> rw [b] <;> exact ⟨by decide, by decide⟩
/-- which column gains: none, or the one of the least label -/
noncomputable def lq_col (A : Nat → Nat → Int) (m nc r : Int) : Prop := (r = -1 ∧ ∀ j : Int, 0 ≤ j → j < nc → 0 ≤ hb_v A (65 * m + j)) ∨ (0 ≤ r ∧ r < nc ∧ hb_v A (65 * m + r) < 0 ∧ ∀ j : Int, 0 ≤ j → j < nc → hb_v A (65 * m + j) < 0 → A 55 r.toNat ≤ A 55 j.toNat)
theorem wq_gaining {z : Nat → Int} {A : Nat → Nat → Int} {m nc : Int} {Q : Int → Prop} (m0 : 0 ≤ m) (m1 : m ≤ 64) (n0 : 0 ≤ nc) (n1 : nc ≤ 64) (hok : hb_ok A) (hl : ∀ j : Int, 0 ≤ j → j < nc → 0 ≤ A 55 j.toNat ∧ A 55 j.toNat < 1000) (hQ : ∀ r, lq_col A m nc r → Q r) : wp_gaining z A m nc Q := by
  intro P hP
  have key : ∀ (k : Nat) (x i : Int), (nc - i).toNat = k → 0 ≤ i → i ≤ nc → lq_col A m i x → P x i := by
    intro k
    induction k with
    | zero =>
      intro x i hk hi hi2 hx
      have e : i = nc := by omega
      subst e
      exact hP x i ⟨⟨by omega, by omega⟩, ⟨by omega, by omega⟩, fun _ => hQ x hx, fun c => by omega⟩
    | succ k ih =>
      intro x i hk hi hi2 hx
      have keep : (0 ≤ hb_v A (65 * m + i) ∨ (0 ≤ x ∧ A 55 x.toNat ≤ A 55 i.toNat)) → wp_gaining_62 z A m nc x i P Q := by
        intro hk2 i2 hi2'
        refine ih x i2 (by omega) (by omega) (by omega) ?_
        rcases hx with ⟨a, b⟩ | ⟨a, b, c, d⟩
        · refine Or.inl ⟨a, fun j j0 j1 => ?_⟩
          by_cases e : j = i
          · subst e
            rcases hk2 with h | h
            · exact h
            · omega
          · exact b j j0 (by omega)
        · refine Or.inr ⟨a, by omega, c, fun j j0 j1 hj => ?_⟩
          by_cases e : j = i
          · subst e
            rcases hk2 with h | h
            · omega
            · exact h.2
          · exact d j j0 (by omega) hj
      have take : hb_v A (65 * m + i) < 0 → (x < 0 ∨ (0 ≤ x ∧ A 55 i.toNat ≤ A 55 x.toNat)) → wp_gaining_57 z A m nc i P Q := by
        intro hneg hk2 i2 hi2'
        refine ih i i2 (by omega) (by omega) (by omega) (Or.inr ⟨hi, by omega, hneg, fun j j0 j1 hj => ?_⟩)
        by_cases e : j = i
        · subst e
          exact Int.le_refl _
        · rcases hx with ⟨a, b⟩ | ⟨a, b, c, d⟩
          · have := b j j0 (by omega)
            omega
          · have := d j j0 (by omega) hj
            rcases hk2 with h | h
            · omega
            · omega
      have hxr : hz_rI x := by rcases hx with ⟨a, b⟩ | ⟨a, b, c, d⟩ <;> exact ⟨by omega, by omega⟩
      refine hP x i ⟨⟨by omega, by omega⟩, ⟨by omega, by omega⟩, fun c => by omega, fun c => wq_bigSign (by omega) (by omega) (hok _ (by omega) (by omega)) ⟨hb_sgn_r _, fun d => ⟨⟨by decide, by decide⟩, fun _ => keep (Or.inl ?_), fun d2 => by omega⟩, fun d => ⟨⟨by decide, by decide⟩, fun d2 => by omega, fun _ => ⟨hxr, fun e => take ?_ (Or.inl e), fun e => ?_⟩⟩⟩⟩
      · apply Classical.byContradiction
        intro hc
        have := hb_sgn_lt.mpr (show hb_v A (65 * m + i) < 0 by omega)
        omega
      · exact hb_sgn_lt.mp (by omega)
      · have hx2 : 0 ≤ x ∧ x < i := by rcases hx with ⟨a, b⟩ | ⟨a, b, c, d⟩ <;> omega
        have l1 := hl i hi (by omega)
        have l2 := hl x hx2.1 (by omega)
        exact ⟨⟨by omega, by omega⟩, ⟨by omega, by omega⟩, ⟨by omega, by omega⟩, ⟨by omega, by omega⟩, fun f => keep (Or.inr ⟨hx2.1, f⟩), fun f => take (hb_sgn_lt.mp (by omega)) (Or.inr ⟨hx2.1, by omega⟩)⟩
  exact key _ (-1) 0 rfl (by omega) (by omega) (Or.inl ⟨rfl, fun j j0 j1 => by omega⟩)
/-- which row is taken: none, or the one of the least ratio, of those the least label -/
noncomputable def lq_row (V : Int → Int → Int) (L : Int → Int) (c nc m r : Int) : Prop := (r = -1 ∧ ∀ i : Int, 0 ≤ i → i < m → V i c ≤ 0) ∨ (0 ≤ r ∧ r < m ∧ 0 < V r c ∧ ∀ i : Int, 0 ≤ i → i < m → 0 < V i c → V r nc * V i c ≤ V i nc * V r c ∧ (V r nc * V i c = V i nc * V r c → L r ≤ L i))
theorem lq_row_keep {V : Int → Int → Int} {L : Int → Int} {c nc i x : Int} (hx : lq_row V L c nc i x) (hk : V i c ≤ 0 ∨ (0 ≤ x ∧ V x nc * V i c ≤ V i nc * V x c ∧ (V x nc * V i c = V i nc * V x c → L x ≤ L i))) : lq_row V L c nc (i + 1) x := by
  rcases hx with ⟨a, b⟩ | ⟨a, b, d, f⟩
  · refine Or.inl ⟨a, fun j j0 j1 => ?_⟩
    by_cases e : j = i
    · subst e
      rcases hk with h | h
      · exact h
      · omega
    · exact b j j0 (by omega)
  · refine Or.inr ⟨a, by omega, d, fun j j0 j1 hj => ?_⟩
    by_cases e : j = i
    · subst e
      rcases hk with h | h
      · omega
      · exact h.2
    · exact f j j0 (by omega) hj
theorem lq_row_take {V : Int → Int → Int} {L : Int → Int} {c nc i x : Int} (hi : 0 ≤ i) (hp : 0 < V i c) (hx : lq_row V L c nc i x) (hk : x < 0 ∨ (0 ≤ x ∧ (V i nc * V x c < V x nc * V i c ∨ (V i nc * V x c = V x nc * V i c ∧ L i ≤ L x)))) : lq_row V L c nc (i + 1) i := by
  refine Or.inr ⟨hi, by omega, hp, fun j j0 j1 hj => ?_⟩
  by_cases e : j = i
  · subst e
    exact ⟨Int.le_refl _, fun _ => Int.le_refl _⟩
  · rcases hx with ⟨a, b⟩ | ⟨a, b, d, f⟩
    · have := b j j0 (by omega)
      omega
    · obtain ⟨g1, g2⟩ := f j j0 (by omega) hj
      rcases hk with h | ⟨-, h | ⟨h1, h2⟩⟩
      · omega
      · have := lp_frac_lt' d hp hj h g1
        exact ⟨by omega, fun e2 => by omega⟩
      · refine ⟨lp_frac d hp hj (by omega) g1, fun e2 => ?_⟩
        have : V x nc * V j c = V j nc * V x c := by
          apply Classical.byContradiction
          intro hne
          have := lp_frac_lt d hp hj (show V i nc * V x c ≤ V x nc * V i c by omega) (show V x nc * V j c < V j nc * V x c by omega)
          omega
        have := g2 this
        omega
theorem wq_rowFor {z : Nat → Int} {A : Nat → Nat → Int} {c m nc : Int} {Q : Int → (Nat → Nat → Int) → Prop} (c0 : 0 ≤ c) (c1 : c < nc) (m0 : 0 ≤ m) (m1 : m ≤ 64) (n1 : nc ≤ 64) (hok : hb_ok A) (hl : ∀ j : Int, 0 ≤ j → j < m → 0 ≤ A 54 j.toNat ∧ A 54 j.toNat < 1000)
    (hQ : ∀ r B, hb_X (fun x => 4243 ≤ x) A B → hb_ok B → lq_row (fun i j => hb_v A (65 * i + j)) (fun i => A 54 i.toNat) c nc m r → Q r B) : wp_rowFor z A c m nc Q := by
  intro P hP
  have key : ∀ (k : Nat) (B : Nat → Nat → Int) (x i : Int), (m - i).toNat = k → 0 ≤ i → i ≤ m → hb_X (fun x => 4243 ≤ x) A B → hb_ok B → lq_row (fun i j => hb_v A (65 * i + j)) (fun i => A 54 i.toNat) c nc i x → P B x i := by
    intro k
    induction k with
    | zero =>
      intro B x i hk hi hi2 hX hokB hx
      have e : i = m := by omega
      subst e
      exact hP B x i ⟨⟨by omega, by omega⟩, ⟨by omega, by omega⟩, fun _ => hQ x B hX hokB hx, fun c => by omega⟩
    | succ k ih =>
      intro B x i hk hi hi2 hX hokB hx
      have same : ∀ (C : Nat → Nat → Int), hb_X (fun x => 4243 ≤ x) A C → ∀ y, 0 ≤ y → y < 4243 → hb_v C y = hb_v A y := fun C hXC y y0 y1 => hb_X_v hXC y0 (by omega) (by omega) (hok y y0 (by omega))
      have keep : ∀ C, hb_X (fun x => 4243 ≤ x) A C → hb_ok C → lq_row (fun i j => hb_v A (65 * i + j)) (fun i => A 54 i.toNat) c nc (i + 1) x → wp_rowFor_126 z C c m nc x i P Q := by
        intro C hXC hokC hk2 i2 hi2'
        rw [hi2']
        exact ih C x (i + 1) (by omega) (by omega) (by omega) hXC hokC hk2
      have take : ∀ C, hb_X (fun x => 4243 ≤ x) A C → hb_ok C → lq_row (fun i j => hb_v A (65 * i + j)) (fun i => A 54 i.toNat) c nc (i + 1) i → wp_rowFor_117 z C c m nc i P Q := by
        intro C hXC hokC hk2 i2 hi2'
        rw [hi2']
        exact ih C i (i + 1) (by omega) (by omega) (by omega) hXC hokC hk2
      have hxr : hz_rI x := by rcases hx with ⟨a, b⟩ | ⟨a, b, d⟩ <;> exact ⟨by omega, by omega⟩
      refine hP B x i ⟨⟨by omega, by omega⟩, ⟨by omega, by omega⟩, fun d => by omega, fun d => wq_bigSign (by omega) (by omega) (hokB _ (by omega) (by omega)) ⟨hb_sgn_r _, fun g => ⟨hxr, fun e => ?_, fun e => ?_⟩, fun g => ?_⟩⟩
      · have hp : 0 < hb_v A (65 * i + c) := by rw [← same B hX _ (by omega) (by omega)]; exact hb_sgn_gt.mp g
        exact ⟨⟨by decide, by decide⟩, fun _ => take B hX hokB (lq_row_take hi hp hx (Or.inl e)), fun f => by omega⟩
      · have hp : 0 < hb_v A (65 * i + c) := by rw [← same B hX _ (by omega) (by omega)]; exact hb_sgn_gt.mp g
        have hx2 : 0 ≤ x ∧ x < i := by rcases hx with ⟨a, b⟩ | ⟨a, b, d⟩ <;> omega
        have len : ∀ (C : Nat → Nat → Int), hb_ok C → ∀ y : Int, 0 ≤ y → y < 4225 → 0 ≤ C 1 y.toNat ∧ C 1 y.toNat ≤ 130 := fun C hC y y0 y1 => by
          have h1 := (hC y y0 (by omega)).1
          have h2 : hb_r y = 130 := by unfold hb_r; rw [if_neg (by omega)]
          rw [h2] at h1
          exact h1
        have r3 : hb_r 4243 = 270 := by decide
        have r4 : hb_r 4244 = 270 := by decide
        have la := len B hokB (65 * i + nc) (by omega) (by omega)
        have lb := len B hokB (65 * x + c) (by omega) (by omega)
        refine wq_bigProduct (by decide) (by decide) (by omega) (by omega) (by omega) (by omega) (by omega) (by omega) (hokB _ (by omega) (by omega)) (hokB _ (by omega) (by omega)) (by omega) (fun A13 hX13 hW13 hv13 hz13 => ?_)
        have hok13 := hb_ok_one hokB hX13 hW13
        have hX013 : hb_X (fun x => 4243 ≤ x) A A13 := hb_X_trans hX (hb_X_mono (fun u e => by omega) hX13)
        have lc := len A13 hok13 (65 * x + nc) (by omega) (by omega)
        have ld := len A13 hok13 (65 * i + c) (by omega) (by omega)
        refine wq_bigProduct (by decide) (by decide) (by omega) (by omega) (by omega) (by omega) (by omega) (by omega) (hok13 _ (by omega) (by omega)) (hok13 _ (by omega) (by omega)) (by omega) (fun A16 hX16 hW16 hv16 hz16 => ?_)
        have hok16 := hb_ok_one hok13 hX16 hW16
        have hX016 : hb_X (fun x => 4243 ≤ x) A A16 := hb_X_trans hX013 (hb_X_mono (fun u e => by omega) hX16)
        have e1 : hb_v A16 4243 = hb_v A (65 * i + nc) * hb_v A (65 * x + c) := by
          rw [hb_X_v hX16 (by decide) (by decide) (by decide) hW13, hv13, same B hX _ (by omega) (by omega), same B hX _ (by omega) (by omega)]
        have e2 : hb_v A16 4244 = hb_v A (65 * x + nc) * hb_v A (65 * i + c) := by
          rw [hv16, same A13 hX013 _ (by omega) (by omega), same A13 hX013 _ (by omega) (by omega)]
        refine wq_bigCompare (by decide) (by decide) (by decide) (by decide) (hok16 _ (by decide) (by decide)) hW16 ?_
        rw [e1, e2]
        have l1 := hl i hi (by omega)
        have l2 := hl x hx2.1 (by omega)
        have e54 : A16 54 = A 54 := hX016.1 54 (by decide)
        refine ⟨hb_c_r _ _, fun f => take A16 hX016 hok16 (lq_row_take hi hp hx (Or.inr ⟨hx2.1, Or.inl ?_⟩)), fun f => ⟨hb_c_r _ _, fun g2 => keep A16 hX016 hok16 (lq_row_keep hx (Or.inr ⟨hx2.1, ?_⟩)), fun g2 => ?_⟩⟩
        · unfold hb_c at f
          split at f
          · assumption
          · split at f <;> omega
        · unfold hb_c at f g2
          split at f
          · omega
          · split at f
            · next h1 h2 => rw [if_neg h1, if_pos h2] at g2; exact absurd rfl g2
            · exact ⟨by omega, fun h => by omega⟩
        · have heq : hb_v A (65 * i + nc) * hb_v A (65 * x + c) = hb_v A (65 * x + nc) * hb_v A (65 * i + c) := by
            unfold hb_c at g2
            split at g2
            · omega
            · split at g2
              · assumption
              · omega
          rw [e54]
          exact ⟨⟨by omega, by omega⟩, ⟨by omega, by omega⟩, ⟨by omega, by omega⟩, ⟨by omega, by omega⟩, fun h => keep A16 hX016 hok16 (lq_row_keep hx (Or.inr ⟨hx2.1, by omega, fun _ => h⟩)), fun h => take A16 hX016 hok16 (lq_row_take hi hp hx (Or.inr ⟨hx2.1, Or.inr ⟨heq, by omega⟩⟩))⟩
      · refine keep B hX hokB (lq_row_keep hx (Or.inl ?_))
        show hb_v A (65 * i + c) ≤ 0
        rw [← same B hX _ (by omega) (by omega)]
        apply Classical.byContradiction
        intro hc
        exact g (hb_sgn_gt.mpr (by omega))
  exact key _ A (-1) 0 rfl (by omega) (by omega) (hb_X_refl _ A) hok (Or.inl ⟨rfl, fun i i0 i1 => by omega⟩)

-- 39.exchange
/-- registers depend on the first three arrays alone -/
theorem hb_arr {A B : Nat → Nat → Int} (e0 : B 0 = A 0) (e1 : B 1 = A 1) (e2 : B 2 = A 2) : (hb_ok A → hb_ok B) ∧ (∀ w, hb_v B w = hb_v A w) ∧ (∀ w, hb_z B w = hb_z A w) := by
  have eg : ∀ w, hb_g B w = hb_g A w := fun w => by unfold hb_g; rw [e0]
  have ez : ∀ w, hb_z B w = hb_z A w := fun w => by unfold hb_z; rw [eg, e1]
  refine ⟨fun hok w w0 w1 => ?_, fun w => ?_, ez⟩
  · have h := hok w w0 w1
    unfold hb_W at h ⊢
    rw [eg, e1, e2]
    exact h
  · unfold hb_v
    rw [e2, ez]
/-- what the solver leaves alone -/
noncomputable def lq_Y (A B : Nat → Nat → Int) : Prop := (∀ k, 2 < k → k ≠ 54 → k ≠ 55 → B k = A k) ∧ ∀ u, 4227 ≤ u → u < 4243 → B 1 u.toNat = A 1 u.toNat ∧ B 2 u.toNat = A 2 u.toNat ∧ ∀ i : Int, 0 ≤ i → i < hb_r u → B 0 (hb_f u + i).toNat = A 0 (hb_f u + i).toNat
theorem lq_Y_refl (A : Nat → Nat → Int) : lq_Y A A := ⟨fun _ _ _ _ => rfl, fun _ _ _ => ⟨rfl, rfl, fun _ _ _ => rfl⟩⟩
theorem lq_Y_trans {A B C : Nat → Nat → Int} (h1 : lq_Y A B) (h2 : lq_Y B C) : lq_Y A C :=
  ⟨fun k a b c => (h2.1 k a b c).trans (h1.1 k a b c), fun u a b => by
    obtain ⟨x1, x2, x3⟩ := h1.2 u a b
    obtain ⟨y1, y2, y3⟩ := h2.2 u a b
    exact ⟨y1.trans x1, y2.trans x2, fun i hi hj => (y3 i hi hj).trans (x3 i hi hj)⟩⟩
theorem lq_Y_X {ws : Int → Prop} {A B : Nat → Nat → Int} (h : hb_X ws A B) (hw : ∀ u, ws u → u < 4227 ∨ 4243 ≤ u) : lq_Y A B :=
  ⟨fun k a _ _ => h.1 k a, fun u a b => h.2 u (by omega) (by omega) (fun e => by have := hw u e; omega)⟩
theorem wq_exchange {z : Nat → Int} {A : Nat → Nat → Int} {r c m nc d : Int} {T T' : Int → Int → Int} {Q : (Nat → Nat → Int) → Prop} (r0 : 0 ≤ r) (r1 : r < m) (m1 : m ≤ 64) (c0 : 0 ≤ c) (c1 : c < nc) (n1 : nc ≤ 64) (hok : hb_ok A)
    (hT : ∀ i j, 0 ≤ i → i ≤ m → 0 ≤ j → j ≤ nc → hb_v A (65 * i + j) = T i j) (hd : hb_v A 4225 = d) (hd0 : 0 < d)
    (hrel : ∀ i j, 0 ≤ i → i ≤ m → 0 ≤ j → j ≤ nc → i ≠ r → j ≠ c → T r c * T i j - T i c * T r j = d * T' i j)
    (hsz : ∀ i j, 0 ≤ i → i ≤ m → 0 ≤ j → j ≤ nc → i ≠ r → j ≠ c → ((T' i j).natAbs : Int) < 16777216 ^ 130)
    (hQ : ∀ B, lq_Y A B → hb_ok B → (∀ i j, 0 ≤ i → i ≤ m → 0 ≤ j → j ≤ nc → hb_v B (65 * i + j) = if i = r then (if j = c then d else T r j) else (if j = c then - T i c else T' i j)) → hb_v B 4225 = T r c → B 54 = hz_u (A 54) r (A 55 c.toNat) → B 55 = hz_u (A 55) c (A 54 r.toNat) → Q B) : wp_exchange z A r c m nc Q := by
  have rc : ∀ y : Int, y < 4243 → hb_r y = 130 := fun y h => by unfold hb_r; rw [if_neg (by omega)]
  have lens : ∀ (C : Nat → Nat → Int), hb_ok C → ∀ y : Int, 0 ≤ y → y < 4243 → C 1 y.toNat ≤ 130 := fun C hC y y0 y1 => by
    have := (hC y y0 (by omega)).1
    rw [rc y y1] at this
    exact this.2
  refine wq_bigCopy (by decide) (by decide) (by omega) (by omega) (by omega) (hok _ (by omega) (by omega)) (by rw [rc _ (by decide)]; exact lens A hok _ (by omega) (by omega)) (fun A25 hX25 hW25 hz25 hs25 hl25 => ?_)
  have hok25 := hb_ok_one hok hX25 hW25
  have hp25 : hb_v A25 4226 = T r c := by rw [hb_copy_v hz25 hs25]; exact hT r c r0 (by omega) c0 (by omega)
  intro P hP
  have key : ∀ (k : Nat) (i : Int) (B : Nat → Nat → Int), (m + 1 - i).toNat = k → 0 ≤ i → i ≤ m + 1 → hb_X (fun x => x < 4225 ∨ x = 4226 ∨ 4243 ≤ x) A B → hb_ok B → hb_v B 4226 = T r c →
      (∀ i' j', 0 ≤ i' → i' ≤ m → 0 ≤ j' → j' ≤ nc → hb_v B (65 * i' + j') = if i' < i ∧ i' ≠ r then (if j' = c then - T i' c else T' i' j') else T i' j') → P B i := by
    intro k
    induction k with
    | zero =>
      intro i B hk hi hi2 hX hokB hp hcell
      have ei : i = m + 1 := by omega
      refine hP B i ⟨⟨by omega, by omega⟩, ⟨by omega, by omega⟩, fun _ => ?_, fun f => by omega⟩
      have hd4 : hb_v B 4225 = d := by rw [hb_X_v hX (by decide) (by decide) (by decide) (hok 4225 (by decide) (by decide))]; exact hd
      refine wq_bigCopy (by omega) (by omega) (by decide) (by decide) (by omega) (hokB 4225 (by decide) (by decide)) (by rw [rc _ (by omega)]; exact lens B hokB _ (by decide) (by decide)) (fun A16 hX16 hW16 hz16 hs16 hl16 => ?_)
      have hok16 := hb_ok_one hokB hX16 hW16
      refine wq_bigCopy (by decide) (by decide) (by decide) (by decide) (by decide) (hok16 4226 (by decide) (by decide)) (by rw [rc _ (by decide)]; exact lens A16 hok16 _ (by decide) (by decide)) (fun A18 hX18 hW18 hz18 hs18 hl18 => ?_)
      have hok18 := hb_ok_one hok16 hX18 hW18
      have hX18' : hb_X (fun x => x < 4227 ∨ 4243 ≤ x) A A18 := hb_X_trans (hb_X_trans (hb_X_mono (fun u e => by omega) hX) (hb_X_mono (fun u e => by omega) hX16)) (hb_X_mono (fun u e => by omega) hX18)
      have e54 : A18 54 = A 54 := hX18'.1 54 (by decide)
      have e55 : A18 55 = A 55 := hX18'.1 55 (by decide)
      refine ⟨⟨by omega, by omega⟩, fun x5 hx5 => ⟨⟨by omega, by omega⟩, ⟨by omega, by omega⟩, fun A20 hA20 => ⟨⟨by omega, by omega⟩, fun A21 hA21 => ?_⟩⟩⟩
      have f0 : A21 0 = A18 0 := by rw [hA21, hb_s_other (by decide), hA20, hb_s_other (by decide)]
      have f1 : A21 1 = A18 1 := by rw [hA21, hb_s_other (by decide), hA20, hb_s_other (by decide)]
      have f2 : A21 2 = A18 2 := by rw [hA21, hb_s_other (by decide), hA20, hb_s_other (by decide)]
      obtain ⟨g1, g2, g3⟩ := hb_arr f0 f1 f2
      have hY : lq_Y A A21 := by
        refine lq_Y_trans (lq_Y_X hX18' (fun u e => by omega)) ⟨fun k k2 k54 k55 => ?_, fun u u0 u1 => ?_⟩
        · rw [hA21, hb_s_other k55, hA20, hb_s_other k54]
        · rw [f0, f1, f2]
          exact ⟨rfl, rfl, fun _ _ _ => rfl⟩
      refine hQ A21 hY (g1 hok18) (fun i' j' a1 a2 a3 a4 => ?_) ?_ ?_ ?_
      · rw [g2, hb_X_v hX18 (by omega) (by omega) (by omega) (hok16 _ (by omega) (by omega))]
        by_cases e : i' = r ∧ j' = c
        · rw [e.1, e.2, if_pos rfl, if_pos rfl, hb_copy_v hz16 hs16, hd4]
        · rw [hb_X_v hX16 (by omega) (by omega) (by omega) (hokB _ (by omega) (by omega)), hcell i' j' a1 a2 a3 a4]
          by_cases er : i' = r
          · rw [if_neg (by omega), if_pos er, if_neg (by omega), er]
          · rw [if_pos ⟨by omega, er⟩, if_neg er]
      · rw [g2, hb_copy_v hz18 hs18, hb_X_v hX16 (by decide) (by decide) (by omega) (hokB 4226 (by decide) (by decide)), hp]
      · rw [hA21, hb_s_other (by decide), hA20]
        simp only [hz_s, lp_U, if_true, e54, e55]
      · rw [hA21]
        simp only [hz_s, lp_U, if_true]
        rw [hA20, hb_s_other (by decide), hx5, e54, e55]
    | succ k ih =>
      intro i B hk hi hi2 hX hokB hp hcell
      have next : ∀ C, hb_X (fun x => x < 4225 ∨ x = 4226 ∨ 4243 ≤ x) A C → hb_ok C → hb_v C 4226 = T r c → (∀ i' j', 0 ≤ i' → i' ≤ m → 0 ≤ j' → j' ≤ nc → hb_v C (65 * i' + j') = if i' < i + 1 ∧ i' ≠ r then (if j' = c then - T i' c else T' i' j') else T i' j') → wp_exchange_87 z C r c m nc i P Q := by
        intro C hXC hokC hpC hcC i2 hi2'
        rw [hi2']
        exact ih (i + 1) C (by omega) (by omega) (by omega) hXC hokC hpC hcC
      refine hP B i ⟨⟨by omega, by omega⟩, ⟨by omega, by omega⟩, fun f => by omega, fun f => ⟨⟨by omega, by omega⟩, ⟨by omega, by omega⟩, fun e => next B hX hokB hp (fun i' j' a1 a2 a3 a4 => ?_), fun ne => ?_⟩⟩
      · rw [hcell i' j' a1 a2 a3 a4]
        by_cases g : i' < i ∧ i' ≠ r
        · rw [if_pos g, if_pos (show i' < i + 1 ∧ i' ≠ r by omega)]
        · rw [if_neg g, if_neg (by omega)]
      · intro P2 hP2
        have key2 : ∀ (k2 : Nat) (j : Int) (C : Nat → Nat → Int), (nc + 1 - j).toNat = k2 → 0 ≤ j → j ≤ nc + 1 → hb_X (fun x => x < 4225 ∨ x = 4226 ∨ 4243 ≤ x) A C → hb_ok C → hb_v C 4226 = T r c →
            (∀ i' j', 0 ≤ i' → i' ≤ m → 0 ≤ j' → j' ≤ nc → hb_v C (65 * i' + j') = if i' = i then (if j' < j ∧ j' ≠ c then T' i j' else T i j') else (if i' < i ∧ i' ≠ r then (if j' = c then - T i' c else T' i' j') else T i' j')) → P2 C j := by
          intro k2
          induction k2 with
          | zero =>
            intro j C hk2 hj hj2 hXC hokC hpC hcC
            refine hP2 C j ⟨⟨by omega, by omega⟩, ⟨by omega, by omega⟩, fun _ => ?_, fun f2 => by omega⟩
            refine wq_turnSign (by omega) (by omega) hokC (fun C6 hX6 hok6 hv6 hz6 => ?_)
            refine next C6 (hb_X_trans hXC (hb_X_mono (fun u e => by omega) hX6)) hok6 (by rw [hb_X_v hX6 (by decide) (by decide) (by omega) (hokC _ (by decide) (by decide))]; exact hpC) (fun i' j' a1 a2 a3 a4 => ?_)
            by_cases e : i' = i ∧ j' = c
            · rw [e.1, e.2, hv6, hcC i c (by omega) (by omega) c0 (by omega), if_pos rfl, if_neg (by omega), if_pos ⟨by omega, ne⟩, if_pos rfl]
            · rw [hb_X_v hX6 (by omega) (by omega) (by omega) (hokC _ (by omega) (by omega)), hcC i' j' a1 a2 a3 a4]
              by_cases e2 : i' = i
              · rw [if_pos e2, if_pos ⟨by omega, by omega⟩, if_pos ⟨by omega, by omega⟩, if_neg (by omega), e2]
              · rw [if_neg e2]
                by_cases g : i' < i ∧ i' ≠ r
                · rw [if_pos g, if_pos (show i' < i + 1 ∧ i' ≠ r by omega)]
                · rw [if_neg g, if_neg (by omega)]
          | succ k2 ih2 =>
            intro j C hk2 hj hj2 hXC hokC hpC hcC
            have next2 : ∀ E, hb_X (fun x => x < 4225 ∨ x = 4226 ∨ 4243 ≤ x) A E → hb_ok E → hb_v E 4226 = T r c → (∀ i' j', 0 ≤ i' → i' ≤ m → 0 ≤ j' → j' ≤ nc → hb_v E (65 * i' + j') = if i' = i then (if j' < j + 1 ∧ j' ≠ c then T' i j' else T i j') else (if i' < i ∧ i' ≠ r then (if j' = c then - T i' c else T' i' j') else T i' j')) → wp_exchange_70 z E r c m nc i j P P2 Q := by
              intro E hXE hokE hpE hcE j2 hj2'
              rw [hj2']
              exact ih2 (j + 1) E (by omega) (by omega) (by omega) hXE hokE hpE hcE
            refine hP2 C j ⟨⟨by omega, by omega⟩, ⟨by omega, by omega⟩, fun f2 => by omega, fun f2 => ⟨⟨by omega, by omega⟩, ⟨by omega, by omega⟩, fun e => next2 C hXC hokC hpC (fun i' j' a1 a2 a3 a4 => ?_), fun ne2 => ?_⟩⟩
            · rw [hcC i' j' a1 a2 a3 a4]
              by_cases g : i' = i
              · rw [if_pos g, if_pos g]
                by_cases g2 : j' < j ∧ j' ≠ c
                · rw [if_pos g2, if_pos (by omega)]
                · rw [if_neg g2, if_neg (by omega)]
              · rw [if_neg g, if_neg g]
            · have hdC : hb_v C 4225 = d := by rw [hb_X_v hXC (by decide) (by decide) (by decide) (hok 4225 (by decide) (by decide))]; exact hd
              have v1 : hb_v C (65 * i + j) = T i j := by rw [hcC i j (by omega) (by omega) (by omega) (by omega), if_pos rfl, if_neg (by omega)]
              have v2 : hb_v C (65 * i + c) = T i c := by rw [hcC i c (by omega) (by omega) (by omega) (by omega), if_pos rfl, if_neg (by omega)]
              have v3 : hb_v C (65 * r + j) = T r j := by rw [hcC r j (by omega) (by omega) (by omega) (by omega), if_neg (by omega), if_neg (by omega)]
              refine wq_exchangeCell (r := T' i j) (by omega) (by omega) (by omega) (by omega) (by omega) (by omega) hokC (by rw [hdC]; exact hd0) (by rw [hpC, hdC, v1, v2, v3]; exact hrel i j (by omega) (by omega) (by omega) (by omega) ne ne2) (hsz i j (by omega) (by omega) (by omega) (by omega) ne ne2) (fun E hXE hokE hvE => ?_)
              refine next2 E (hb_X_trans hXC (hb_X_mono (fun u e => by omega) hXE)) hokE (by rw [hb_X_v hXE (by decide) (by decide) (by omega) (hokC _ (by decide) (by decide))]; exact hpC) (fun i' j' a1 a2 a3 a4 => ?_)
              by_cases e : i' = i ∧ j' = j
              · rw [e.1, e.2, hvE, if_pos rfl, if_pos ⟨by omega, ne2⟩]
              · rw [hb_X_v hXE (by omega) (by omega) (by omega) (hokC _ (by omega) (by omega)), hcC i' j' a1 a2 a3 a4]
                by_cases g : i' = i
                · rw [if_pos g, if_pos g]
                  by_cases g2 : j' < j ∧ j' ≠ c
                  · rw [if_pos g2, if_pos (by omega)]
                  · rw [if_neg g2, if_neg (by omega)]
                · rw [if_neg g, if_neg g]
        refine key2 _ 0 B rfl (by omega) (by omega) hX hokB hp (fun i' j' a1 a2 a3 a4 => ?_)
        rw [hcell i' j' a1 a2 a3 a4]
        by_cases g : i' = i
        · rw [if_pos g, if_neg (by omega), if_neg (by omega), g]
        · rw [if_neg g]
  refine key _ 0 A25 rfl (by omega) (by omega) (hb_X_mono (fun u e => by omega) hX25) hok25 hp25 (fun i' j' a1 a2 a3 a4 => ?_)
  rw [hb_X_v hX25 (by omega) (by omega) (by omega) (hok _ (by omega) (by omega)), hT i' j' a1 a2 a3 a4, if_neg (by omega)]

-- 40.work
/-- the columns of the model's table: plans of B, then what is left of each row -/
noncomputable def lq_M (m : Nat) (a : Nat → Nat → Int) (l : Nat) : Nat → Int := fun t => if l < 100 then (if t < m then a t l else if t = m then -1 else 0) else lp_e (l - 100) t
noncomputable def lq_h (m : Nat) : Nat → Int := fun t => if t < m then 1 else 0
noncomputable def lq_L (m nc : Nat) (l : Nat) : Prop := l < nc ∨ (100 ≤ l ∧ l < 100 + m)
theorem lq_M_slack (m : Nat) (a : Nat → Nat → Int) (k : Nat) : lq_M m a (100 + k) = lp_e k := by
  funext t
  unfold lq_M
  rw [if_neg (by omega), Nat.add_sub_cancel_left]
theorem lq_A_le {v : Nat → Int} {c n : Nat} (h : ∀ t, t < n → (v t).natAbs ≤ c) : lp_A v (lp_L n) ≤ n * c := by
  induction n with
  | zero => simp [lp_L, lp_A]
  | succ n ih =>
    simp only [lp_L, lp_A]
    have h1 := ih (fun t ht => h t (by omega))
    have h2 := h n (by omega)
    rw [Nat.add_mul]
    omega
theorem lq_small (m : Nat) (a : Nat → Nat → Int) (nc : Nat) (ha : ∀ i j, i < m → j < nc → 1 ≤ a i j ∧ a i j ≤ 2199023255552) (nc1 : nc ≤ 64) {l : Nat} (hl : lq_L m nc l) (t : Nat) : (lq_M m a l t).natAbs ≤ 2199023255552 := by
  unfold lq_M
  by_cases e : l < 100
  · rw [if_pos e]
    have hln : l < nc := by rcases hl with h | h <;> omega
    split
    · next ht => have := ha t l ht hln; omega
    · split <;> simp
  · rw [if_neg e]
    unfold lp_e
    split <;> simp
theorem lq_e_small (k t : Nat) : (lp_e k t).natAbs ≤ 2199023255552 := by unfold lp_e; split <;> simp
theorem lq_h_small (m t : Nat) : (lq_h m t).natAbs ≤ 2199023255552 := by unfold lq_h; split <;> simp
theorem lq_size {m nc : Nat} {a : Nat → Nat → Int} {β : Nat → Nat} (hm : m ≤ 64) (hn : nc ≤ 64) (ha : ∀ i j, i < m → j < nc → 1 ≤ a i j ∧ a i j ≤ 2199023255552) (hβ : ∀ k, k < m → lq_L m nc (β k)) (i : Nat) {x : Nat → Int} (hx : ∀ t, (x t).natAbs ≤ 2199023255552) : (lp_R m (lq_M m a) β i x).natAbs ≤ 142936511610880 ^ 65 := by
  unfold lp_R
  refine Nat.le_trans (lp_E_bound (N := 142936511610880) (fun k hk => ?_)) (Nat.pow_le_pow_right (by decide) (by omega))
  refine Nat.le_trans (lq_A_le (c := 2199023255552) (fun t ht => ?_)) (Nat.le_trans (Nat.mul_le_mul_right _ (show m + 1 ≤ 65 by omega)) (by decide))
  unfold lp_U lp_b
  split
  · exact hx t
  · split
    · exact lq_e_small m t
    · exact lq_small m a nc ha hn (hβ k (by omega)) t
theorem lq_size_d {m nc : Nat} {a : Nat → Nat → Int} {β : Nat → Nat} (hm : m ≤ 64) (hn : nc ≤ 64) (ha : ∀ i j, i < m → j < nc → 1 ≤ a i j ∧ a i j ≤ 2199023255552) (hβ : ∀ k, k < m → lq_L m nc (β k)) : (lp_d m (lq_M m a) β).natAbs ≤ 142936511610880 ^ 65 := by
  unfold lp_d
  refine Nat.le_trans (lp_E_bound (N := 142936511610880) (fun k hk => ?_)) (Nat.pow_le_pow_right (by decide) (by omega))
  refine Nat.le_trans (lq_A_le (c := 2199023255552) (fun t ht => ?_)) (Nat.le_trans (Nat.mul_le_mul_right _ (show m + 1 ≤ 65 by omega)) (by decide))
  unfold lp_b
  split
  · exact lq_e_small m t
  · exact lq_small m a nc ha hn (hβ k (by omega)) t
theorem lq_fits {n : Nat} (h : n ≤ 142936511610880 ^ 65) : (n : Int) < 16777216 ^ 130 := by
  have h1 : (142936511610880 : Nat) ^ 65 < 16777216 ^ 130 := by decide +kernel
  have h2 : ((n : Nat) : Int) < ((16777216 ^ 130 : Nat) : Int) := by omega
  rw [Int.natCast_pow] at h2
  exact h2
/-- the table that stands in the cells -/
noncomputable def lq_T (m nc : Nat) (a : Nat → Nat → Int) (A : Nat → Nat → Int) (β γ : Nat → Nat) : Prop :=
  hb_ok A ∧ lp_G m (lq_M m a) (lq_h m) β ∧ hb_v A 4225 = lp_d m (lq_M m a) β ∧
  (∀ i j : Nat, i ≤ m → j < nc → hb_v A (65 * i + j) = lp_R m (lq_M m a) β i (lq_M m a (γ j))) ∧ (∀ i : Nat, i ≤ m → hb_v A (65 * i + nc) = lp_R m (lq_M m a) β i (lq_h m)) ∧
  (∀ k, k < m → A 54 k = (β k : Int)) ∧ (∀ j, j < nc → A 55 j = (γ j : Int)) ∧ (∀ k, k < m → lq_L m nc (β k)) ∧ (∀ j, j < nc → lq_L m nc (γ j)) ∧ (∀ l, lq_L m nc l → (∃ k, k < m ∧ β k = l) ∨ (∃ j, j < nc ∧ γ j = l))
theorem lq_start {m nc : Nat} {a A : Nat → Nat → Int} (hm : m ≤ 64) (hn : nc ≤ 64) (hok : hb_ok A) (hd : hb_v A 4225 = 1) (hc : ∀ i j : Nat, i < m → j < nc → hb_v A (65 * i + j) = a i j) (hr : ∀ i : Nat, i < m → hb_v A (65 * i + nc) = 1) (hg : ∀ j : Nat, j < nc → hb_v A (65 * m + j) = -1) (hz : hb_v A (65 * m + nc) = 0)
    (h54 : ∀ k : Nat, k < m → A 54 k = (100 + k : Nat)) (h55 : ∀ j : Nat, j < nc → A 55 j = (j : Nat)) :
    lq_T m nc a A (fun k => 100 + k) (fun j => j) ∧ lp_R m (lq_M m a) (fun k => 100 + k) m (lq_h m) = 0 ∧ (∀ i, i < m → lp_R m (lq_M m a) (fun k => 100 + k) i (lq_h m) = 1) ∧ (∀ j, j < nc → lp_R m (lq_M m a) (fun k => 100 + k) m (lq_M m a j) = -1) := by
  have eb : lp_b m (lq_M m a) (fun k => 100 + k) = lp_e := by
    funext k
    unfold lp_b
    split
    · next e => rw [e]
    · exact lq_M_slack m a k
  have ed : lp_d m (lq_M m a) (fun k => 100 + k) = 1 := by unfold lp_d; rw [eb, lp_E_units]
  have er : ∀ (i : Nat) (x : Nat → Int), i ≤ m → lp_R m (lq_M m a) (fun k => 100 + k) i x = x i := fun i x hi => by
    unfold lp_R
    rw [eb, lp_E_unit (m + 1) i (by omega)]
  have eh : ∀ i, i < m → lp_R m (lq_M m a) (fun k => 100 + k) i (lq_h m) = 1 := fun i hi => by rw [er i _ (by omega)]; exact if_pos hi
  have ehm : lp_R m (lq_M m a) (fun k => 100 + k) m (lq_h m) = 0 := by rw [er m _ (by omega)]; exact if_neg (by omega)
  have em : ∀ j, j < nc → lp_R m (lq_M m a) (fun k => 100 + k) m (lq_M m a j) = -1 := fun j hj => by
    rw [er m _ (by omega)]
    unfold lq_M
    rw [if_pos (by omega), if_neg (by omega), if_pos rfl]
  refine ⟨⟨hok, ⟨by rw [eb]; exact lp_C_start _, by rw [ed]; decide, fun i hi => by rw [eh i hi]; decide⟩, by rw [ed]; exact hd, fun i j hi hj => ?_, fun i hi => ?_, h54, h55, fun k hk => Or.inr ⟨by show 100 ≤ 100 + k; omega, by show 100 + k < 100 + m; omega⟩, fun j hj => Or.inl hj, fun l hl => ?_⟩, ehm, eh, em⟩
  · by_cases e : i = m
    · subst e
      rw [em j hj]
      exact hg j hj
    · rw [er i _ hi, hc i j (by omega) hj]
      show a i j = lq_M m a j i
      unfold lq_M
      rw [if_pos (by omega), if_pos (by omega)]
  · by_cases e : i = m
    · subst e
      rw [ehm]
      exact hz
    · rw [eh i (by omega)]
      exact hr i (by omega)
  · rcases hl with h | h
    · exact Or.inr ⟨l, h, rfl⟩
    · exact Or.inl ⟨l - 100, by omega, by simp only []; omega⟩
/-- a table whose goal is above 0, or the first one -/
noncomputable def lq_pos (m nc : Nat) (a : Nat → Nat → Int) (β : Nat → Nat) : Prop := 0 < lp_R m (lq_M m a) β m (lq_h m) ∨ (lp_R m (lq_M m a) β m (lq_h m) = 0 ∧ (∀ i, i < m → 0 < lp_R m (lq_M m a) β i (lq_h m)) ∧ ∃ l, lq_L m nc l ∧ lp_R m (lq_M m a) β m (lq_M m a l) < 0)
theorem lq_pos_step {m nc : Nat} {a : Nat → Nat → Int} {β : Nat → Nat} {r c : Nat} (hG : lp_G m (lq_M m a) (lq_h m) β) (hT : lp_T m (lq_M m a) (lq_h m) (lq_L m nc) β r c) (hp : lq_pos m nc a β) : lq_pos m nc a (lp_U β r c) := by
  refine Or.inl ?_
  obtain ⟨hC, hd, hh⟩ := hG
  obtain ⟨hr, -, hneg, -, hpos, -⟩ := hT
  have hs := lp_R_step (c := c) (i := m) hC hr (by omega) (by omega) (lq_h m)
  have h1 : 0 < lp_d m (lq_M m a) β * lp_R m (lq_M m a) (lp_U β r c) m (lq_h m) := by
    rw [hs]
    rcases hp with h | ⟨h, h2, -⟩
    · have k1 := Int.mul_pos hpos h
      have k2 : 0 ≤ (- lp_R m (lq_M m a) β m (lq_M m a c)) * lp_R m (lq_M m a) β r (lq_h m) := Int.mul_nonneg (by omega) (hh r hr)
      rw [Int.neg_mul] at k2
      omega
    · rw [h, Int.mul_zero]
      have k2 : 0 < (- lp_R m (lq_M m a) β m (lq_M m a c)) * lp_R m (lq_M m a) β r (lq_h m) := Int.mul_pos (by omega) (h2 r hr)
      rw [Int.neg_mul] at k2
      omega
  apply Classical.byContradiction
  intro hc
  have : 0 ≤ lp_d m (lq_M m a) β * (- lp_R m (lq_M m a) (lp_U β r c) m (lq_h m)) := Int.mul_nonneg (by omega) (by omega)
  rw [Int.mul_neg] at this
  omega
theorem wq_work_loop {z : Nat → Int} {m nc : Nat} {a : Nat → Nat → Int} {Q : (Nat → Nat → Int) → Prop} {A0 : Nat → Nat → Int} (m0 : 0 < m) (hm : m ≤ 64) (hn : nc ≤ 64) (ha : ∀ i j, i < m → j < nc → 1 ≤ a i j ∧ a i j ≤ 2199023255552)
    (hQ : ∀ B, lq_Y A0 B → hb_ok B → 0 < hb_v B (65 * m + nc) → hb_v B (65 * m + nc) ≤ 142936511610880 ^ 65 → 0 < hb_v B 4225 → hb_v B 4225 ≤ 142936511610880 ^ 65 → Q B)
    {β γ : Nat → Nat} {A : Nat → Nat → Int} {x : Int} (hY : lq_Y A0 A) (hT : lq_T m nc a A β γ) (hp : lq_pos m nc a β) (hx : lq_col A m nc x) : wp_work_93 z A m nc x Q := by
  intro P hP
  have hacc : Acc (fun β' β => ∃ r c, lp_T m (lq_M m a) (lq_h m) (lq_L m nc) β r c ∧ β' = lp_U β r c) β :=
    lp_acc (K := 200) (fun l hl => by rcases hl with h | h <;> omega) (fun k hk => by rcases hT.2.2.2.2.2.2.2.1 k hk with h | h <;> omega) hT.2.1
  have key : ∀ β, Acc (fun β' β => ∃ r c, lp_T m (lq_M m a) (lq_h m) (lq_L m nc) β r c ∧ β' = lp_U β r c) β → ∀ (γ : Nat → Nat) (A : Nat → Nat → Int) (x : Int), lq_Y A0 A → lq_T m nc a A β γ → lq_pos m nc a β → lq_col A m nc x → P A x := by
    intro β hβ
    induction hβ with
    | intro β _ ih =>
      intro γ A x hY hT hp hx
      obtain ⟨hok, hG, hd, hcell, hrhs, h54, h55, hLb, hLg, hcov⟩ := hT
      rcases hx with ⟨hx1, hx2⟩ | ⟨hx0, hx1, hneg, hmin⟩
      · subst hx1
        refine hP A _ ⟨⟨by decide, by decide⟩, fun _ => ?_, fun c => by omega⟩
        have hz := hrhs m (Nat.le_refl m)
        have hzp : 0 < lp_R m (lq_M m a) β m (lq_h m) := by
          rcases hp with h | ⟨-, -, l, hl, hlneg⟩
          · exact h
          · exfalso
            rcases hcov l hl with ⟨k, hk, e⟩ | ⟨j, hj, e⟩
            · rw [← e, lp_R_basic hk (by omega) (by omega)] at hlneg
              omega
            · have h1 := hx2 j (by omega) (by omega)
              rw [hcell m j (Nat.le_refl m) hj, e] at h1
              omega
        have s1 := lq_size hm hn ha hLb m (lq_h_small m)
        have s2 := lq_size_d hm hn ha hLb
        have e1 : ((142936511610880 ^ 65 : Nat) : Int) = 142936511610880 ^ 65 := by rw [Int.natCast_pow]; rfl
        have hd0 := hG.2.1
        refine hQ A hY hok (by rw [hz]; exact hzp) ?_ (by rw [hd]; exact hd0) ?_
        · rw [hz, ← e1]
          omega
        · rw [hd, ← e1]
          omega
      · obtain ⟨c, hc⟩ : ∃ c : Nat, x = (c : Int) := ⟨x.toNat, by omega⟩
        subst hc
        have hcn : c < nc := by omega
        rw [hcell m c (Nat.le_refl m) hcn] at hneg
        have ec : ((c : Int)).toNat = c := by omega
        -- the row
        have hrow : ∃ i, i < m ∧ 0 < lp_R m (lq_M m a) β i (lq_M m a (γ c)) := by
          have hM : ∀ k t, k < m → t < m → 0 ≤ lq_M m a (β k) t := fun k t hk ht => by
            unfold lq_M
            by_cases hl : β k < 100
            · rw [if_pos hl, if_pos ht]
              have := ha t (β k) ht (by rcases hLb k hk with h | h <;> omega)
              omega
            · rw [if_neg hl]
              unfold lp_e
              split <;> omega
          rcases hLg c hcn with h | h
          · refine lp_row hG hM (t := 0) m0 ?_
            unfold lq_M
            rw [if_pos (by omega), if_pos m0]
            have := ha 0 (γ c) m0 h
            omega
          · refine lp_row hG hM (t := γ c - 100) (by omega) ?_
            unfold lq_M
            rw [if_neg (by omega), lp_e_same]
            decide
        refine hP A c ⟨⟨by omega, by omega⟩, fun f => by omega, fun _ => ?_⟩
        refine wq_rowFor (by omega) (by omega) (by omega) (by omega) (by omega) hok (fun j j0 j1 => ?_) (fun r A3 hX3 hok3 hr => ?_)
        · have e : j = ((j.toNat : Nat) : Int) := by omega
          have h1 := h54 j.toNat (by omega)
          rw [h1]
          rcases hLb j.toNat (by omega) with h | h <;> omega
        · have same3 : ∀ y, 0 ≤ y → y < 4243 → hb_v A3 y = hb_v A y := fun y y0 y1 => hb_X_v hX3 y0 (by omega) (by omega) (hok y y0 (by omega))
          rcases hr with ⟨hr1, hr2⟩ | ⟨hr0, hr1, hrpos, hrmin⟩
          · exfalso
            obtain ⟨i, hi, hpi⟩ := hrow
            have h1 := hr2 i (by omega) (by omega)
            simp only [] at h1
            rw [hcell i c (by omega) hcn] at h1
            omega
          · obtain ⟨q, hq⟩ : ∃ q : Nat, r = (q : Int) := ⟨r.toNat, by omega⟩
            subst hq
            have hqm : q < m := by omega
            simp only [] at hrpos hrmin
            rw [hcell q c (by omega) hcn] at hrpos
            have eq' : ((q : Int)).toNat = q := by omega
            have hTT : lp_T m (lq_M m a) (lq_h m) (lq_L m nc) β q (γ c) := by
              refine ⟨hqm, hLg c hcn, hneg, fun l hl hlneg => ?_, hrpos, fun i hi hip => ?_⟩
              · rcases hcov l hl with ⟨k, hk, e⟩ | ⟨j, hj, e⟩
                · rw [← e, lp_R_basic hk (by omega) (by omega)] at hlneg
                  omega
                · have h1 := hmin j (by omega) (by omega) (by rw [hcell m j (Nat.le_refl m) hj, e]; exact hlneg)
                  have ej : ((j : Int)).toNat = j := by omega
                  rw [ec, ej, h55 c hcn, h55 j hj] at h1
                  omega
              · have h1 := hrmin i (by omega) (by omega) (by rw [hcell i c (by omega) hcn]; exact hip)
                have ei : ((i : Int)).toNat = i := by omega
                rw [hcell i c (by omega) hcn, hcell q c (by omega) hcn, hrhs q (by omega), hrhs i (by omega), eq', ei, h54 q hqm, h54 i hi] at h1
                exact ⟨h1.1, fun e => by have := h1.2 e; omega⟩
            have hGn := lp_G_step hG hTT
            have hLb' : ∀ k, k < m → lq_L m nc (lp_U β q (γ c) k) := fun k hk => by
              unfold lp_U
              split
              · exact hLg c hcn
              · exact hLb k hk
            have hxs : ∀ j : Nat, j ≤ nc → ∀ t, ((if j = nc then lq_h m else lq_M m a (γ j)) t).natAbs ≤ 2199023255552 := fun j hj t => by
              split
              · exact lq_h_small m t
              · exact lq_small m a nc ha hn (hLg j (by omega)) t
            refine wq_exchange (d := lp_d m (lq_M m a) β) (T := fun i j => lp_R m (lq_M m a) β i.toNat (if j.toNat = nc then lq_h m else lq_M m a (γ j.toNat))) (T' := fun i j => lp_R m (lq_M m a) (lp_U β q (γ c)) i.toNat (if j.toNat = nc then lq_h m else lq_M m a (γ j.toNat))) (by omega) (by omega) (by omega) (by omega) (by omega) (by omega) hok3 (fun i j i0 i1 j0 j1 => ?_) ?_ hG.2.1 (fun i j i0 i1 j0 j1 ne1 ne2 => ?_) (fun i j i0 i1 j0 j1 ne1 ne2 => ?_) (fun B hYB hokB hcB hdB hB54 hB55 => ?_)
            · rw [same3 _ (by omega) (by omega)]
              have e1 : i = ((i.toNat : Nat) : Int) := by omega
              have e2 : j = ((j.toNat : Nat) : Int) := by omega
              by_cases e : j.toNat = nc
              · rw [if_pos e]
                have := hrhs i.toNat (by omega)
                rw [← e1] at this
                rw [← this]
                congr 2
                omega
              · rw [if_neg e]
                have := hcell i.toNat j.toNat (by omega) (by omega)
                rw [← e1, ← e2] at this
                exact this
            · rw [same3 _ (by decide) (by decide)]
              exact hd
            · simp only [ec, eq']
              rw [if_neg (by omega)]
              exact (lp_R_step (c := γ c) (i := i.toNat) hG.1 hqm (by omega) (by omega) _).symm
            · exact lq_fits (lq_size hm hn ha hLb' i.toNat (hxs j.toNat (by omega)))
            · simp only [ec, eq'] at hcB hdB
              rw [if_neg (by omega)] at hdB
              have e54 : A3 54 = A 54 := hX3.1 54 (by decide)
              have e55 : A3 55 = A 55 := hX3.1 55 (by decide)
              rw [e54, e55, ec] at hB54
              rw [e54, e55, eq'] at hB55
              have hTB : lq_T m nc a B (lp_U β q (γ c)) (lp_U γ c (β q)) := by
                refine ⟨hokB, hGn, by rw [hdB, lp_d_step hqm], fun i j hi hj => ?_, fun i hi => ?_, fun k hk => ?_, fun j hj => ?_, hLb', fun j hj => ?_, fun l hl => ?_⟩
                · rw [hcB i j (by omega) (by omega) (by omega) (by omega)]
                  have ei : ((i : Int)).toNat = i := by omega
                  have ej : ((j : Int)).toNat = j := by omega
                  rw [ei, ej]
                  by_cases e1 : i = q
                  · subst e1
                    rw [if_pos rfl, lp_R_step_r hqm]
                    by_cases e2 : j = c
                    · subst e2
                      rw [if_pos rfl, lp_U_same, lp_R_self hqm]
                    · rw [if_neg (by omega), lp_U_other e2, if_neg (by omega)]
                  · rw [if_neg (by omega)]
                    by_cases e2 : j = c
                    · subst e2
                      rw [if_pos rfl, lp_U_same, if_neg (by omega)]
                      have h1 := lp_R_step (c := γ j) (i := i) hG.1 hqm (by omega) e1 (lq_M m a (β q))
                      rw [lp_R_basic hqm (by omega) e1, lp_R_self hqm, Int.mul_zero] at h1
                      have h2 : lp_d m (lq_M m a) β * lp_R m (lq_M m a) (lp_U β q (γ j)) i (lq_M m a (β q)) = lp_d m (lq_M m a) β * (- lp_R m (lq_M m a) β i (lq_M m a (γ j))) := by
                        rw [h1, Int.mul_neg, Int.mul_comm]
                        omega
                      exact (Int.eq_of_mul_eq_mul_left (by have := hG.2.1; omega) h2).symm
                    · rw [if_neg (by omega), lp_U_other e2, if_neg (by omega)]
                · rw [hcB i nc (by omega) (by omega) (by omega) (by omega)]
                  have ei : ((i : Int)).toNat = i := by omega
                  have en : ((nc : Int)).toNat = nc := by omega
                  rw [ei, en]
                  by_cases e1 : i = q
                  · subst e1
                    rw [if_pos rfl, lp_R_step_r hqm, if_neg (by omega), if_pos rfl]
                  · rw [if_neg (by omega), if_neg (by omega), if_pos rfl]
                · rw [hB54]
                  unfold hz_u lp_U
                  rw [eq']
                  split
                  · exact h55 c hcn
                  · exact h54 k hk
                · rw [hB55]
                  unfold hz_u lp_U
                  rw [ec]
                  split
                  · exact h54 q hqm
                  · exact h55 j hj
                · unfold lp_U
                  split
                  · exact hLb q hqm
                  · exact hLg j hj
                · rcases hcov l hl with ⟨k, hk, e⟩ | ⟨j, hj, e⟩
                  · by_cases ek : k = q
                    · subst ek
                      exact Or.inr ⟨c, hcn, by rw [lp_U_same]; exact e⟩
                    · exact Or.inl ⟨k, hk, by rw [lp_U_other ek]; exact e⟩
                  · by_cases ej : j = c
                    · subst ej
                      exact Or.inl ⟨q, hqm, by rw [lp_U_same]; exact e⟩
                    · exact Or.inr ⟨j, hj, by rw [lp_U_other ej]; exact e⟩
              have hYAB : lq_Y A0 B := lq_Y_trans hY (lq_Y_trans (lq_Y_X hX3 (fun u e => by omega)) hYB)
              refine wq_gaining (by omega) (by omega) (by omega) (by omega) hokB (fun j j0 j1 => ?_) (fun x2 hx2 => ?_)
              · rw [hTB.2.2.2.2.2.2.1 j.toNat (by omega)]
                rcases hTB.2.2.2.2.2.2.2.2.1 j.toNat (by omega) with h | h <;> omega
              · exact ih _ ⟨q, γ c, hTT, rfl⟩ _ B x2 hYAB hTB (lq_pos_step hG hTT hp) hx2
  exact key β hacc γ A x hY hT hp hx

-- 41.plans
/-- all arrays but one stand as they were -/
noncomputable def lq_K (q : Nat) (A B : Nat → Nat → Int) : Prop := ∀ k, k ≠ q → B k = A k
theorem lq_K_refl (q : Nat) (A : Nat → Nat → Int) : lq_K q A A := fun _ _ => rfl
theorem lq_K_trans {q : Nat} {A B C : Nat → Nat → Int} (h1 : lq_K q A B) (h2 : lq_K q B C) : lq_K q A C := fun k hk => (h2 k hk).trans (h1 k hk)
theorem lq_K_s (q : Nat) (A : Nat → Nat → Int) (i v : Int) : lq_K q A (hz_s A q i v) := fun k hk => hb_s_other hk
theorem lq_s_fun (A : Nat → Nat → Int) (q : Nat) (i v : Int) : hz_s A q i v q = hz_u (A q) i v := by simp [hz_s, lp_U]
theorem wq_firstPlan {z : Nat → Int} {A : Nat → Nat → Int} {p : Nat} {Q : (Nat → Nat → Int) → Prop} (hp : p < 2) (hQ : ∀ B, lq_K 52 A B → (∀ s : Nat, B 52 s = if 10 * p ≤ s ∧ s < 10 * p + 10 then 0 else A 52 s) → Q B) : wp_firstPlan z A (p : Int) Q := by
  intro x hx
  intro P hP
  have key : ∀ (k i : Nat) (B : Nat → Nat → Int), 10 - i = k → i ≤ 10 → lq_K 52 A B → (∀ s : Nat, B 52 s = if 10 * p ≤ s ∧ s < 10 * p + i then 0 else A 52 s) → P B ((10 * p + i : Nat) : Int) := by
    intro k
    induction k with
    | zero =>
      intro i B hk hi hK hs
      have e : i = 10 := by omega
      subst e
      exact hP B _ ⟨⟨by omega, by omega⟩, ⟨by omega, by omega⟩, fun _ => hQ B hK hs, fun c => by omega⟩
    | succ k ih =>
      intro i B hk hi hK hs
      refine hP B _ ⟨⟨by omega, by omega⟩, ⟨by omega, by omega⟩, fun c => by omega, fun c => ⟨⟨by omega, by omega⟩, fun B2 hB2 x2 hx2 => ?_⟩⟩
      have e : x2 = ((10 * p + (i + 1) : Nat) : Int) := by omega
      rw [e]
      refine ih (i + 1) B2 (by omega) (by omega) (lq_K_trans hK (by rw [hB2]; exact lq_K_s _ _ _ _)) (fun s => ?_)
      rw [hB2, lq_s_fun]
      unfold hz_u
      by_cases es : s = 10 * p + i
      · rw [if_pos (by omega), if_pos (by omega)]
      · rw [if_neg (by omega), hs s]
        by_cases c2 : 10 * p ≤ s ∧ s < 10 * p + i
        · rw [if_pos c2, if_pos (by omega)]
        · rw [if_neg c2, if_neg (by omega)]
  have h := key _ 0 A rfl (by omega) (lq_K_refl _ A) (fun s => by rw [if_neg (by omega)])
  have e : x = ((10 * p + 0 : Nat) : Int) := by omega
  rw [e]
  exact h
/-- the next plan, as a function -/
noncomputable def lq_n (mv : Nat → Int) (b : Nat) : Nat → (Nat → Int) → Nat → Int
  | 0, f => f
  | k + 1, f => if f (b + k) + 1 < mv (b + k) then lp_U f (b + k) (f (b + k) + 1) else lq_n mv b k (lp_U f (b + k) 0)
/-- whether there is a next one -/
noncomputable def lq_r (mv : Nat → Int) (b : Nat) : Nat → (Nat → Int) → Int
  | 0, _ => 0
  | k + 1, f => if f (b + k) + 1 < mv (b + k) then 1 else lq_r mv b k (lp_U f (b + k) 0)
/-- how many come -/
noncomputable def lq_m (mv : Nat → Int) (b : Nat) : Nat → (Nat → Int) → Int
  | 0, _ => 0
  | k + 1, f => (mv (b + k) - 1 - f (b + k)) + mv (b + k) * lq_m mv b k f
theorem lq_r_01 (mv : Nat → Int) (b k : Nat) (f : Nat → Int) : lq_r mv b k f = 0 ∨ lq_r mv b k f = 1 := by
  induction k generalizing f with
  | zero => exact Or.inl rfl
  | succ k ih =>
    simp only [lq_r]
    split
    · exact Or.inr rfl
    · exact ih _
theorem lq_m_congr (mv : Nat → Int) (b k : Nat) (f g : Nat → Int) (h : ∀ s, b ≤ s → s < b + k → f s = g s) : lq_m mv b k f = lq_m mv b k g := by
  induction k with
  | zero => rfl
  | succ k ih => simp only [lq_m]; rw [ih (fun s h1 h2 => h s h1 (by omega)), h (b + k) (by omega) (by omega)]
theorem lq_m_nonneg (mv : Nat → Int) (b k : Nat) (f : Nat → Int) (h : ∀ s, b ≤ s → s < b + k → 0 ≤ f s ∧ f s < mv s) : 0 ≤ lq_m mv b k f := by
  induction k with
  | zero => exact Int.le_refl _
  | succ k ih =>
    simp only [lq_m]
    have h1 := h (b + k) (by omega) (by omega)
    have h2 := Int.mul_nonneg (show 0 ≤ mv (b + k) by omega) (ih (fun s h1 h2 => h s h1 (by omega)))
    omega
theorem lq_n_out (mv : Nat → Int) (b k : Nat) (f : Nat → Int) (s : Nat) (hs : s < b ∨ b + k ≤ s) : lq_n mv b k f s = f s := by
  induction k generalizing f with
  | zero => rfl
  | succ k ih =>
    simp only [lq_n]
    split
    · exact lp_U_other (by omega)
    · rw [ih _ (by omega)]
      exact lp_U_other (by omega)
theorem lq_n_congr (mv : Nat → Int) (b k : Nat) (f g : Nat → Int) (h : ∀ s, b ≤ s → s < b + k → f s = g s) : ∀ s, b ≤ s → s < b + k → lq_n mv b k f s = lq_n mv b k g s := by
  induction k generalizing f g with
  | zero => intro s h1 h2; omega
  | succ k ih =>
    intro s h1 h2
    simp only [lq_n]
    rw [h (b + k) (by omega) (by omega)]
    split
    · unfold lp_U
      split
      · rfl
      · exact h s h1 h2
    · by_cases e : s = b + k
      · rw [lq_n_out _ _ _ _ s (by omega), lq_n_out _ _ _ _ s (by omega), e, lp_U_same, lp_U_same]
      · exact ih _ _ (fun t t1 t2 => by rw [lp_U_other (by omega), lp_U_other (by omega)]; exact h t t1 (by omega)) s h1 (by omega)
theorem lq_n_range (mv : Nat → Int) (b k : Nat) (f : Nat → Int) (c : Int) (hc : 0 ≤ c) (hm : ∀ s, b ≤ s → s < b + k → mv s ≤ c) (h : ∀ s, 0 ≤ f s ∧ f s ≤ c) : ∀ s, 0 ≤ lq_n mv b k f s ∧ lq_n mv b k f s ≤ c := by
  induction k generalizing f with
  | zero => exact h
  | succ k ih =>
    intro s
    simp only [lq_n]
    split
    · next hlt =>
      unfold lp_U
      split
      · have := hm (b + k) (by omega) (by omega)
        have := h (b + k)
        omega
      · exact h s
    · exact ih _ (fun t t1 t2 => hm t t1 (by omega)) (fun t => by unfold lp_U; split; omega; exact h t) s
theorem lq_n_ok (mv : Nat → Int) (b k : Nat) (f : Nat → Int) (h : ∀ s, b ≤ s → s < b + k → 0 ≤ f s ∧ f s < mv s) : ∀ s, b ≤ s → s < b + k → 0 ≤ lq_n mv b k f s ∧ lq_n mv b k f s < mv s := by
  induction k generalizing f with
  | zero => intro s h1 h2; omega
  | succ k ih =>
    intro s h1 h2
    have hk := h (b + k) (by omega) (by omega)
    simp only [lq_n]
    split
    · unfold lp_U
      split
      · next e => subst e; omega
      · exact h s h1 h2
    · by_cases e : s = b + k
      · rw [lq_n_out _ _ _ _ s (by omega), e, lp_U_same]
        omega
      · exact ih _ (fun t t1 t2 => by rw [lp_U_other (by omega)]; exact h t t1 (by omega)) s h1 (by omega)
theorem lq_m_step (mv : Nat → Int) (b k : Nat) (f : Nat → Int) (h : ∀ s, b ≤ s → s < b + k → 0 ≤ f s ∧ f s < mv s) (hr : lq_r mv b k f = 1) : lq_m mv b k (lq_n mv b k f) = lq_m mv b k f - 1 := by
  induction k generalizing f with
  | zero => simp [lq_r] at hr
  | succ k ih =>
    have hk := h (b + k) (by omega) (by omega)
    simp only [lq_r] at hr
    by_cases c : f (b + k) + 1 < mv (b + k)
    · simp only [lq_n, lq_m]
      rw [if_pos c, lp_U_same, lq_m_congr mv b k (lp_U f (b + k) (f (b + k) + 1)) f (fun s h1 h2 => lp_U_other (by omega))]
      omega
    · rw [if_neg c] at hr
      have h0 : ∀ s, b ≤ s → s < b + k → 0 ≤ lp_U f (b + k) 0 s ∧ lp_U f (b + k) 0 s < mv s := fun t t1 t2 => by rw [lp_U_other (by omega)]; exact h t t1 (by omega)
      have h1 := ih (lp_U f (b + k) 0) h0 hr
      simp only [lq_n, lq_m]
      rw [if_neg c, lq_n_out _ _ _ _ (b + k) (by omega), lp_U_same, h1, lq_m_congr mv b k (lp_U f (b + k) 0) f (fun s h1 h2 => lp_U_other (by omega)), Int.mul_sub]
      omega
theorem wq_nextPlan {z : Nat → Int} {A : Nat → Nat → Int} {p g n : Nat} {Q : Int → (Nat → Nat → Int) → Prop} (hp : p < 2) (hg : z 32 = (g : Int)) (hg2 : g < 2) (hn : A 26 (2 * g + p) = (n : Int)) (hn2 : n ≤ 10) (hmv : ∀ s, s < n → 0 ≤ A 28 (20 * g + (10 * p + s)) ∧ A 28 (20 * g + (10 * p + s)) ≤ 100) (hpl : ∀ s, 0 ≤ A 52 s ∧ A 52 s ≤ 100)
    (hQ : ∀ B, lq_K 52 A B → B 52 = lq_n (fun s => A 28 (20 * g + s)) (10 * p) n (A 52) → Q (lq_r (fun s => A 28 (20 * g + s)) (10 * p) n (A 52)) B) : wp_nextPlan z A (p : Int) Q := by
  refine ⟨by omega, ?_⟩
  have e1 : ((2 * z 32 + ((p : Int) + 1)) - 1).toNat = 2 * g + p := by omega
  rw [e1, hn]
  intro x hx
  intro P hP
  have key : ∀ (k : Nat) (B : Nat → Nat → Int), k ≤ n → lq_K 52 A B → (∀ s, 0 ≤ B 52 s ∧ B 52 s ≤ 100) → (∀ C, lq_K 52 A C → C 52 = lq_n (fun s => A 28 (20 * g + s)) (10 * p) k (B 52) → Q (lq_r (fun s => A 28 (20 * g + s)) (10 * p) k (B 52)) C) → P B ((10 * p + k : Nat) - 1 : Int) := by
    intro k
    induction k with
    | zero =>
      intro B hk hK hr hq
      exact hP B _ ⟨⟨by omega, by omega⟩, ⟨by omega, by omega⟩, fun _ => hq B hK rfl, fun c => by omega⟩
    | succ k ih =>
      intro B hk hK hr hq
      have ei : (((10 * p + (k + 1) : Nat) : Int) - 1).toNat = 10 * p + k := by omega
      have hm := hmv k (by omega)
      refine hP B _ ⟨⟨by omega, by omega⟩, ⟨by omega, by omega⟩, fun c => by omega, fun c => ⟨⟨by omega, by omega⟩, ⟨by omega, by omega⟩, fun B2 hB2 => ⟨⟨by omega, by omega⟩, ⟨by omega, ?_⟩⟩⟩⟩
      have hK2 : lq_K 52 A B2 := lq_K_trans hK (by rw [hB2]; exact lq_K_s _ _ _ _)
      have e28 : B2 28 = A 28 := hK2 28 (by decide)
      have e52 : B2 52 = hz_u (B 52) (((10 * p + (k + 1) : Nat) : Int) - 1) (B 52 (10 * p + k) + 1) := by rw [hB2, lq_s_fun, ei]
      have ev : B2 52 (10 * p + k) = B 52 (10 * p + k) + 1 := by
        rw [e52]
        unfold hz_u
        rw [if_pos ei.symm]
      have eix : (20 * z 32 + (((10 * p + (k + 1) : Nat) : Int) - 1)).toNat = 20 * g + (10 * p + k) := by omega
      have hrk := hr (10 * p + k)
      rw [ei, ev, eix, e28]
      refine ⟨⟨by omega, by omega⟩, ⟨by omega, by omega⟩, fun c2 => ⟨⟨by omega, by omega⟩, fun B5 hB5 x6 hx6 => ?_⟩, fun c2 => ?_⟩
      · have hK5 : lq_K 52 A B5 := lq_K_trans hK2 (by rw [hB5]; exact lq_K_s _ _ _ _)
        have e5 : B5 52 = lp_U (B 52) (10 * p + k) 0 := by
          rw [hB5, lq_s_fun, e52]
          funext s
          unfold hz_u lp_U
          rw [ei]
          split <;> rfl
        have e : x6 = (((10 * p + k : Nat) : Int) - 1) := by omega
        rw [e]
        refine ih B5 (by omega) hK5 (fun s => by rw [e5]; unfold lp_U; split; omega; exact hr s) (fun C hKC hC => ?_)
        have hq2 := hq C hKC (by
          simp only [lq_n]
          rw [if_neg (by omega), hC, e5])
        simp only [lq_r] at hq2
        rw [if_neg (by omega), ← e5] at hq2
        exact hq2
      · have hq2 := hq B2 hK2 (by
          simp only [lq_n]
          rw [if_pos (by omega), e52]
          funext s
          unfold hz_u lp_U
          rw [ei])
        simp only [lq_r] at hq2
        rw [if_pos (by omega)] at hq2
        exact hq2
  have h := key n A (Nat.le_refl n) (lq_K_refl _ A) hpl (fun C hK hC => hQ C hK hC)
  have e : x = (((10 * p + n : Nat) : Int) - 1) := by omega
  rw [e]
  exact h
/-- whether a plan leads to an end, and what is won over all ends -/
noncomputable def lq_ld (A : Nat → Nat → Int) (pl : Nat → Int) (f : Nat) : Nat → Int
  | 0 => 1
  | k + 1 => if lq_ld A pl f k = 0 then 0 else if pl (A 22 (f + k)).toNat = A 23 (f + k) then 1 else 0
noncomputable def lq_mt (A : Nat → Nat → Int) (g : Nat) (pl : Nat → Int) : Nat → Int
  | 0 => 0
  | e + 1 => if lq_ld A pl (A 20 (400 * g + e)).toNat (A 21 (400 * g + e)).toNat = 0 then lq_mt A g pl e else lq_mt A g pl e + A 19 (400 * g + e)
/-- the ends of a game -/
noncomputable def mg_E (A : Nat → Nat → Int) (g : Nat) : Prop := (0 ≤ A 14 g ∧ A 14 g ≤ 400) ∧ ∀ e : Nat, (e : Int) < A 14 g → (0 ≤ A 20 (400 * g + e) ∧ 0 ≤ A 21 (400 * g + e) ∧ A 20 (400 * g + e) + A 21 (400 * g + e) ≤ 16000) ∧ (-1000000000 < A 19 (400 * g + e) ∧ A 19 (400 * g + e) < 1000000000) ∧
  ∀ w : Nat, A 20 (400 * g + e) ≤ w → (w : Int) < A 20 (400 * g + e) + A 21 (400 * g + e) → 0 ≤ A 22 w ∧ A 22 w < 20 ∧ 0 ≤ A 23 w ∧ A 23 w < 4
theorem lq_ld_01 (A : Nat → Nat → Int) (pl : Nat → Int) (f k : Nat) : lq_ld A pl f k = 0 ∨ lq_ld A pl f k = 1 := by
  cases k with
  | zero => exact Or.inr rfl
  | succ k =>
    simp only [lq_ld]
    split
    · exact Or.inl rfl
    · split
      · exact Or.inr rfl
      · exact Or.inl rfl
theorem lq_mt_range {A : Nat → Nat → Int} {g : Nat} (h : mg_E A g) (pl : Nat → Int) (n : Nat) (hn : (n : Int) ≤ A 14 g) : -(1000000000 * (n : Int)) ≤ lq_mt A g pl n ∧ lq_mt A g pl n ≤ 1000000000 * (n : Int) := by
  induction n with
  | zero => simp [lq_mt]
  | succ n ih =>
    have h1 := ih (by omega)
    have h2 := (h.2 n (by omega)).2.1
    simp only [lq_mt]
    split <;> omega
theorem wq_meet {z : Nat → Int} {A : Nat → Nat → Int} {g : Nat} {Q : Int → Prop} (hg : z 32 = (g : Int)) (hg2 : g < 2) (hE : mg_E A g) (hpl : ∀ s, 0 ≤ A 52 s ∧ A 52 s ≤ 100) (hQ : Q (lq_mt A g (A 52) (A 14 g).toNat)) : wp_meet z A Q := by
  obtain ⟨⟨n0, n1⟩, hE2⟩ := hE
  have eg : (z 32).toNat = g := by omega
  intro x hx
  intro P hP
  have key : ∀ (k e : Nat), (A 14 g).toNat - e = k → (e : Int) ≤ A 14 g → P (lq_mt A g (A 52) e) ((400 * g + e : Nat) : Int) := by
    intro k
    induction k with
    | zero =>
      intro e hk he
      have ee : (A 14 g).toNat = e := by omega
      refine hP _ _ ⟨⟨by omega, by omega⟩, ⟨by omega, by omega⟩, by rw [eg]; exact ⟨by omega, by omega⟩, fun _ => ?_, fun c => by rw [eg] at c; omega⟩
      rw [ee] at hQ
      exact hQ
    | succ k ih =>
      intro e hk he
      obtain ⟨⟨f0, f1, f2⟩, -, hw⟩ := hE2 e (by omega)
      obtain ⟨f, hf⟩ : ∃ f : Nat, (A 20 (400 * g + e)).toNat = f := ⟨_, rfl⟩
      obtain ⟨l, hl⟩ : ∃ l : Nat, (A 21 (400 * g + e)).toNat = l := ⟨_, rfl⟩
      have ef : A 20 (400 * g + e) = (f : Int) := by omega
      have el : A 21 (400 * g + e) = (l : Int) := by omega
      rw [ef, el] at hw
      have et : (((400 * g + e : Nat) : Int)).toNat = 400 * g + e := by omega
      refine hP _ _ ⟨⟨by omega, by omega⟩, ⟨by omega, by omega⟩, by rw [eg]; exact ⟨by omega, by omega⟩, fun c => by rw [eg] at c; omega, fun c => ⟨⟨by omega, by omega⟩, fun x5 hx5 => ?_⟩⟩
      rw [et, ef] at hx5
      intro P2 hP2
      have key2 : ∀ (k2 j : Nat), l - j = k2 → j ≤ l → P2 (lq_ld A (A 52) f j) ((f + j : Nat) : Int) := by
        intro k2
        induction k2 with
        | zero =>
          intro j hk2 hj
          have ej : j = l := by omega
          subst ej
          have hr := lq_ld_01 A (A 52) f j
          have fin : ∀ v : Int, v = lq_mt A g (A 52) (e + 1) → wp_meet_119 z A ((400 * g + e : Nat) : Int) v P Q := by
            intro v hv x3 hx3
            have e3 : x3 = ((400 * g + (e + 1) : Nat) : Int) := by omega
            rw [hv, e3]
            exact ih (e + 1) (by omega) (by omega)
          refine hP2 _ _ ⟨⟨by omega, by omega⟩, ⟨by omega, by omega⟩, ⟨by omega, by omega⟩, by rw [et, ef, el]; exact ⟨by omega, by omega⟩, fun _ => ⟨⟨by omega, by omega⟩, fun d => fin _ ?_, fun d => ⟨⟨by omega, by omega⟩, fin _ ?_⟩⟩, fun d => by rw [et, ef, el] at d; omega⟩
          · simp only [lq_mt]
            rw [hf, hl, if_pos d]
          · simp only [lq_mt]
            rw [hf, hl, if_neg d, et]
        | succ k2 ih2 =>
          intro j hk2 hj
          have hr := lq_ld_01 A (A 52) f j
          obtain ⟨w0, w1, w2, w3⟩ := hw (f + j) (by omega) (by omega)
          have ew : (((f + j : Nat) : Int)).toNat = f + j := by omega
          have fin : ∀ v : Int, v = lq_ld A (A 52) f (j + 1) → wp_meet_94 z A (lq_mt A g (A 52) e) ((400 * g + e : Nat) : Int) ((f + j : Nat) : Int) v P P2 Q := by
            intro v hv x5' hx5'
            have e5 : x5' = ((f + (j + 1) : Nat) : Int) := by omega
            rw [hv, e5]
            exact ih2 (j + 1) (by omega) (by omega)
          have hp := hpl (A 22 (f + j)).toNat
          refine hP2 _ _ ⟨⟨by omega, by omega⟩, ⟨by omega, by omega⟩, ⟨by omega, by omega⟩, by rw [et, ef, el]; exact ⟨by omega, by omega⟩, fun d => by rw [et, ef, el] at d; omega, fun d => ⟨⟨by omega, by omega⟩, fun d2 => fin 0 ?_, fun d2 => ⟨⟨by omega, by omega⟩, ?_⟩⟩⟩
          · simp only [lq_ld]
            rw [if_pos d2]
          · rw [ew]
            refine ⟨⟨w0, w1⟩, ⟨by omega, by omega⟩, ⟨by omega, by omega⟩, ⟨by omega, by omega⟩, fun d3 => fin 0 ?_, fun d3 => fin 1 ?_⟩
            · simp only [lq_ld]
              rw [if_neg d2, if_neg d3]
            · simp only [lq_ld]
              rw [if_neg d2, if_pos d3]
      have h2 := key2 _ 0 rfl (by omega)
      rw [hx5]
      exact h2
  have h := key _ 0 rfl (by omega)
  have e : x = ((400 * g + 0 : Nat) : Int) := by omega
  rw [e]
  exact h
theorem lq_ld_congr (A : Nat → Nat → Int) {B : Nat → Nat → Int} (pl pl2 : Nat → Int) (f k : Nat) (h22 : B 22 = A 22) (h23 : B 23 = A 23) (h : ∀ j, j < k → pl2 (A 22 (f + j)).toNat = pl (A 22 (f + j)).toNat) : lq_ld B pl2 f k = lq_ld A pl f k := by
  induction k with
  | zero => rfl
  | succ k ih =>
    simp only [lq_ld]
    rw [ih (fun j hj => h j (by omega)), h22, h23, h k (by omega)]
theorem lq_mt_congr {A B : Nat → Nat → Int} {g : Nat} (hE : mg_E A g) (hB : ∀ k, k = 14 ∨ k = 19 ∨ k = 20 ∨ k = 21 ∨ k = 22 ∨ k = 23 → B k = A k) {pl pl2 : Nat → Int} (hp : ∀ s, s < 20 → pl2 s = pl s) (n : Nat) (hn : (n : Int) ≤ A 14 g) : lq_mt B g pl2 n = lq_mt A g pl n := by
  induction n with
  | zero => rfl
  | succ n ih =>
    obtain ⟨⟨f0, f1, f2⟩, -, hw⟩ := hE.2 n (by omega)
    simp only [lq_mt]
    rw [ih (by omega), hB 20 (by decide), hB 21 (by decide), hB 19 (by decide), lq_ld_congr A pl pl2 _ _ (hB 22 (by decide)) (hB 23 (by decide)) (fun j hj => hp _ (by
      have := hw ((A 20 (400 * g + n)).toNat + j) (by omega) (by omega)
      omega))]

-- 42.fill
/-- what solve() leaves alone until its result is kept -/
noncomputable def lq_Z (A B : Nat → Nat → Int) : Prop := (∀ k, 2 < k → k ≠ 52 → k ≠ 54 → k ≠ 55 → B k = A k) ∧ ∀ u, 4227 ≤ u → u < 4243 → B 1 u.toNat = A 1 u.toNat ∧ B 2 u.toNat = A 2 u.toNat ∧ ∀ i : Int, 0 ≤ i → i < hb_r u → B 0 (hb_f u + i).toNat = A 0 (hb_f u + i).toNat
theorem lq_Z_refl (A : Nat → Nat → Int) : lq_Z A A := ⟨fun _ _ _ _ _ => rfl, fun _ _ _ => ⟨rfl, rfl, fun _ _ _ => rfl⟩⟩
theorem lq_Z_trans {A B C : Nat → Nat → Int} (h1 : lq_Z A B) (h2 : lq_Z B C) : lq_Z A C :=
  ⟨fun k a b c d => (h2.1 k a b c d).trans (h1.1 k a b c d), fun u a b => by
    obtain ⟨x1, x2, x3⟩ := h1.2 u a b
    obtain ⟨y1, y2, y3⟩ := h2.2 u a b
    exact ⟨y1.trans x1, y2.trans x2, fun i hi hj => (y3 i hi hj).trans (x3 i hi hj)⟩⟩
theorem lq_Z_Y {A B : Nat → Nat → Int} (h : lq_Y A B) : lq_Z A B := ⟨fun k a _ c d => h.1 k a c d, h.2⟩
theorem lq_Z_K {A B : Nat → Nat → Int} (h : lq_K 52 A B) : lq_Z A B := ⟨fun k _ b _ _ => h k b, fun u _ _ => by rw [h 0 (by decide), h 1 (by decide), h 2 (by decide)]; exact ⟨rfl, rfl, fun _ _ _ => rfl⟩⟩
theorem hb_ok_K {q : Nat} {A B : Nat → Nat → Int} (hq : 2 < q) (h : lq_K q A B) (hok : hb_ok A) : hb_ok B := (hb_arr (h 0 (by omega)) (h 1 (by omega)) (h 2 (by omega))).1 hok
theorem hb_v_K {q : Nat} {A B : Nat → Nat → Int} (hq : 2 < q) (h : lq_K q A B) (w : Int) : hb_v B w = hb_v A w := (hb_arr (h 0 (by omega)) (h 1 (by omega)) (h 2 (by omega))).2.1 w
noncomputable def lq_it (mv : Nat → Int) (b n : Nat) : Nat → Nat → Int
  | 0 => fun _ => 0
  | k + 1 => lq_n mv b n (lq_it mv b n k)
/-- the i-th plan of A beside the j-th of B -/
noncomputable def lq_F (mv : Nat → Int) (n0 n1 i j : Nat) : Nat → Int := fun s => if s < 10 then lq_it mv 0 n0 i s else lq_it mv 10 n1 j s
theorem wq_fill {z : Nat → Int} {A : Nat → Nat → Int} {g n0 n1 r c : Nat} {Q : Int → (Nat → Nat → Int) → Prop} (hg : z 32 = (g : Int)) (hg2 : g < 2) (hE : mg_E A g) (hn0 : A 26 (2 * g + 0) = (n0 : Int)) (hn0' : n0 ≤ 10) (hn1 : A 26 (2 * g + 1) = (n1 : Int)) (hn1' : n1 ≤ 10)
    (hm0 : ∀ s, s < n0 → 0 ≤ A 28 (20 * g + (10 * 0 + s)) ∧ A 28 (20 * g + (10 * 0 + s)) ≤ 100) (hm1 : ∀ s, s < n1 → 0 ≤ A 28 (20 * g + (10 * 1 + s)) ∧ A 28 (20 * g + (10 * 1 + s)) ≤ 100) (hpl : ∀ s, 0 ≤ A 52 s ∧ A 52 s ≤ 100) (hr : r ≤ 64) (hc : c ≤ 64) (hok : hb_ok A)
    (hQ : ∀ (x : Int) (B : Nat → Nat → Int) (a : Nat → Nat → Int), lq_Z A B → hb_ok B → (∀ s, 0 ≤ B 52 s ∧ B 52 s ≤ 100) → (∀ i j : Nat, i < r → j < c → (1 ≤ a i j ∧ a i j ≤ 2199023255552) ∧ hb_v B (65 * i + j) = a i j) → 1 ≤ x → x ≤ 400000000001 → Q x B) : wp_fill z A r c Q := by
  obtain ⟨mv, hmv⟩ : ∃ mv : Nat → Int, mv = fun s => A 28 (20 * g + s) := ⟨_, rfl⟩
  obtain ⟨V, hV⟩ : ∃ V : Nat → Nat → Int, V = fun i j => lq_mt A g (lq_F mv n0 n1 i j) (A 14 g).toNat := ⟨_, rfl⟩
  have hVr : ∀ i j, -400000000000 ≤ V i j ∧ V i j ≤ 400000000000 := fun i j => by
    have h1 := lq_mt_range hE (lq_F mv n0 n1 i j) (A 14 g).toNat (by have := hE.1; omega)
    have := hE.1
    rw [hV]
    simp only []
    omega
  -- what holds on the way
  obtain ⟨J, hJ⟩ : ∃ J : Nat → Nat → Nat → (Nat → Nat → Int) → Int → Prop, J = fun t i j B x => lq_Z A B ∧ hb_ok B ∧ (∀ s, 0 ≤ B 52 s ∧ B 52 s ≤ 100) ∧ (-400000000000 ≤ x ∧ x ≤ 0) ∧ (t = 0 → ∀ i' j', j' < c → (i' < i ∨ i' = i ∧ j' < j) → x ≤ V i' j') ∧ (t = 1 → (∀ i' j', i' < r → j' < c → x ≤ V i' j') ∧ ∀ i' j' : Nat, i' < r → j' < c → (i' < i ∨ i' = i ∧ j' < j) → hb_v B (65 * i' + j') = V i' j' + 1 - x) := ⟨_, rfl⟩
  have next : ∀ (p n : Nat) (B : Nat → Nat → Int) (Q' : Int → (Nat → Nat → Int) → Prop), p < 2 → A 26 (2 * g + p) = (n : Int) → n ≤ 10 → (∀ s, s < n → 0 ≤ A 28 (20 * g + (10 * p + s)) ∧ A 28 (20 * g + (10 * p + s)) ≤ 100) → lq_Z A B → (∀ s, 0 ≤ B 52 s ∧ B 52 s ≤ 100) →
      (∀ q C, lq_K 52 B C → C 52 = lq_n mv (10 * p) n (B 52) → (∀ s, 0 ≤ C 52 s ∧ C 52 s ≤ 100) → Q' q C) → wp_nextPlan z B (p : Int) Q' := by
    intro p n B Q' hp hn hn' hm hZ hB hq
    have e26 : B 26 = A 26 := hZ.1 26 (by decide) (by decide) (by decide) (by decide)
    have e28 : B 28 = A 28 := hZ.1 28 (by decide) (by decide) (by decide) (by decide)
    refine wq_nextPlan hp hg hg2 (by rw [e26]; exact hn) hn' (by rw [e28]; exact hm) hB (fun C hK hC => ?_)
    rw [e28, ← hmv] at hC
    refine hq _ C hK hC (fun s => ?_)
    rw [hC]
    refine lq_n_range mv _ n _ 100 (by decide) (fun t t1 t2 => ?_) hB s
    rw [hmv]
    have := hm (t - 10 * p) (by omega)
    have e : 10 * p + (t - 10 * p) = t := by omega
    rw [e] at this
    exact this.2
  have inner : ∀ (t i : Nat), t < 2 → i < r → ∀ (P5 P19 : (Nat → Nat → Int) → Int → Int → Prop), (∀ B x, J t (i + 1) 0 B x → (∀ s, s < 10 → B 52 s = lq_it mv 0 n0 (i + 1) s) → P19 B x ((i + 1 : Nat) : Int)) →
      ∀ (B : Nat → Nat → Int) (x : Int), J t i 0 B x → (∀ s, s < 20 → B 52 s = lq_F mv n0 n1 i 0 s) → wp_fill_33 z B r c x t i 0 P5 P19 Q := by
    intro t i ht hi P5 P19 hP19 B0 x0 hJ0 hF0
    intro P hP
    have key : ∀ (k j : Nat) (B : Nat → Nat → Int) (x : Int), c - j = k → j ≤ c → J t i j B x → (∀ s, s < 20 → B 52 s = lq_F mv n0 n1 i j s) → P B x (j : Int) := by
      intro k
      induction k with
      | zero =>
        intro j B x hk hj hJB hF
        have ej : j = c := by omega
        subst ej
        refine hP B x _ ⟨⟨by omega, by omega⟩, ⟨by omega, by omega⟩, fun _ => ?_, fun d => by omega⟩
        have hJB2 := hJB
        rw [hJ] at hJB2
        obtain ⟨hZ, hokB, hpB, hx, h0, h1⟩ := hJB2
        refine next 0 n0 B _ (by decide) hn0 hn0' hm0 hZ hpB (fun q C hK hC hpC x6 hx6 => ?_)
        have e6 : x6 = ((i + 1 : Nat) : Int) := by omega
        rw [e6]
        refine hP19 C x ?_ (fun s hs => ?_)
        · rw [hJ]
          refine ⟨lq_Z_trans hZ (lq_Z_K hK), hb_ok_K (by decide) hK hokB, hpC, hx, fun e i' j' a b => h0 e i' j' a (by omega), fun e => ⟨(h1 e).1, fun i' j' a0 a b => ?_⟩⟩
          rw [hb_v_K (by decide) hK]
          exact (h1 e).2 i' j' a0 a (by omega)
        · rw [hC]
          simp only [lq_it]
          by_cases hsn : s < n0
          · refine lq_n_congr mv 0 n0 _ _ (fun s' _ h2 => ?_) s (by omega) (by omega)
            rw [hF s' (by omega)]
            unfold lq_F
            rw [if_pos (by omega)]
          · rw [lq_n_out _ _ _ _ s (by omega), lq_n_out _ _ _ _ s (by omega), hF s (by omega)]
            unfold lq_F
            rw [if_pos hs]
      | succ k ih =>
        intro j B x hk hj hJB hF
        have hJB2 := hJB
        rw [hJ] at hJB2
        obtain ⟨hZ, hokB, hpB, hx, h0, h1⟩ := hJB2
        have eK : ∀ k, k = 14 ∨ k = 19 ∨ k = 20 ∨ k = 21 ∨ k = 22 ∨ k = 23 → B k = A k := fun k hk => hZ.1 k (by omega) (by omega) (by omega) (by omega)
        have hEB : mg_E B g := by
          unfold mg_E at hE ⊢
          rw [eK 14 (by decide), eK 19 (by decide), eK 20 (by decide), eK 21 (by decide), eK 22 (by decide), eK 23 (by decide)]
          exact hE
        have ev : lq_mt B g (B 52) (B 14 g).toNat = V i j := by
          rw [eK 14 (by decide), hV]
          exact lq_mt_congr hE eK hF _ (by have := hE.1; omega)
        have hvr := hVr i j
        -- behind a cell
        have go : ∀ (C : Nat → Nat → Int) (x' : Int), J t i (j + 1) C x' → (∀ s, s < 20 → C 52 s = lq_F mv n0 n1 i j s) → wp_fill_85 z C r c x' t i j P5 P19 P Q := by
          intro C x' hJC hFC
          have hJC2 := hJC
          rw [hJ] at hJC2
          obtain ⟨hZC, hokC, hpC, hxC, h0C, h1C⟩ := hJC2
          refine next 1 n1 C _ (by decide) hn1 hn1' hm1 hZC hpC (fun q E hK hE' hpE x7 hx7 => ?_)
          have e7 : x7 = ((j + 1 : Nat) : Int) := by omega
          rw [e7]
          refine ih (j + 1) E x' (by omega) (by omega) ?_ (fun s hs => ?_)
          · rw [hJ]
            refine ⟨lq_Z_trans hZC (lq_Z_K hK), hb_ok_K (by decide) hK hokC, hpE, hxC, h0C, fun e => ⟨(h1C e).1, fun i' j' a0 a b => ?_⟩⟩
            rw [hb_v_K (by decide) hK]
            exact (h1C e).2 i' j' a0 a b
          · rw [hE']
            unfold lq_F
            by_cases hs10 : s < 10
            · rw [if_pos hs10, lq_n_out _ _ _ _ s (by omega), hFC s hs]
              unfold lq_F
              rw [if_pos hs10]
            · rw [if_neg hs10]
              simp only [lq_it]
              by_cases hsn : s < 10 + n1
              · refine lq_n_congr mv 10 n1 _ _ (fun s' h1 h2 => ?_) s (by omega) (by omega)
                rw [hFC s' (by omega)]
                unfold lq_F
                rw [if_neg (by omega)]
              · rw [lq_n_out _ _ _ _ s (by omega), lq_n_out _ _ _ _ s (by omega), hFC s hs]
                unfold lq_F
                rw [if_neg hs10]
        refine hP B x _ ⟨⟨by omega, by omega⟩, ⟨by omega, by omega⟩, fun d => by omega, fun d => wq_meet hg hg2 hEB hpB ?_⟩
        rw [ev]
        refine ⟨⟨by omega, by omega⟩, fun tn => ?_, fun tz => ⟨⟨by omega, by omega⟩, ⟨by omega, by omega⟩, fun le => go B x ?_ hF, fun gt => go B (V i j) ?_ hF⟩⟩
        · have et : t = 1 := by omega
          refine wq_bigSet (by omega) (by omega) (by omega) (fun C hXC hWC hvC _ => go C x ?_ (fun s hs => by rw [hXC.1 52 (by decide)]; exact hF s hs))
          rw [hJ]
          refine ⟨lq_Z_trans hZ ⟨fun k a _ _ _ => hXC.1 k a, fun u u0 u1 => hXC.2 u (by omega) (by omega) (by omega)⟩, hb_ok_one hokB hXC hWC, by rw [hXC.1 52 (by decide)]; exact hpB, hx, fun e => by omega, fun e => ⟨(h1 e).1, fun i' j' a0 a b => ?_⟩⟩
          by_cases e2 : i' = i ∧ j' = j
          · rw [e2.1, e2.2, hvC]
          · rw [hb_X_v hXC (by omega) (by omega) (by omega) (hokB _ (by omega) (by omega))]
            exact (h1 e).2 i' j' a0 a (by omega)
        · rw [hJ]
          refine ⟨hZ, hokB, hpB, hx, fun e i' j' a b => ?_, fun e => by omega⟩
          by_cases e2 : i' = i ∧ j' = j
          · rw [e2.1, e2.2]
            exact le
          · exact h0 e i' j' a (by omega)
        · rw [hJ]
          refine ⟨hZ, hokB, hpB, ⟨hvr.1, by omega⟩, fun e i' j' a b => ?_, fun e => by omega⟩
          by_cases e2 : i' = i ∧ j' = j
          · rw [e2.1, e2.2]
            exact Int.le_refl _
          · have := h0 e i' j' a (by omega)
            omega
    exact key _ 0 B0 x0 rfl (by omega) hJ0 hF0
  have outer : ∀ (t : Nat), t < 2 → ∀ (P5 : (Nat → Nat → Int) → Int → Int → Prop), (∀ B x, J t r 0 B x → P5 B x ((t + 1 : Nat) : Int)) → ∀ (B : Nat → Nat → Int) (x : Int), J t 0 0 B x → (∀ s, s < 10 → B 52 s = lq_it mv 0 n0 0 s) → wp_fill_19 z B r c x t 0 P5 Q := by
    intro t ht P5 hP5 B0 x0 hJ0 hF0
    intro P hP
    have key : ∀ (k i : Nat) (B : Nat → Nat → Int) (x : Int), r - i = k → i ≤ r → J t i 0 B x → (∀ s, s < 10 → B 52 s = lq_it mv 0 n0 i s) → P B x (i : Int) := by
      intro k
      induction k with
      | zero =>
        intro i B x hk hi hJB hF
        have ei : i = r := by omega
        subst ei
        refine hP B x _ ⟨⟨by omega, by omega⟩, ⟨by omega, by omega⟩, fun _ x5 hx5 => ?_, fun d => by omega⟩
        have e5 : x5 = ((t + 1 : Nat) : Int) := by omega
        rw [e5]
        exact hP5 B x hJB
      | succ k ih =>
        intro i B x hk hi hJB hF
        refine hP B x _ ⟨⟨by omega, by omega⟩, ⟨by omega, by omega⟩, fun d => by omega, fun d => wq_firstPlan (p := 1) (by decide) (fun C hK hC => ?_)⟩
        have hJB2 := hJB
        rw [hJ] at hJB2
        obtain ⟨hZ, hokB, hpB, hx, h0, h1⟩ := hJB2
        refine inner t i ht (by omega) P5 P (fun B' x' hJ' hF' => ih (i + 1) B' x' (by omega) (by omega) hJ' hF') C x ?_ (fun s hs => ?_)
        · rw [hJ]
          refine ⟨lq_Z_trans hZ (lq_Z_K hK), hb_ok_K (by decide) hK hokB, fun s => ?_, hx, h0, fun e => ⟨(h1 e).1, fun i' j' a0 a b => ?_⟩⟩
          · rw [hC s]
            split
            · omega
            · exact hpB s
          · rw [hb_v_K (by decide) hK]
            exact (h1 e).2 i' j' a0 a b
        · rw [hC s]
          unfold lq_F
          by_cases hs10 : s < 10
          · rw [if_neg (by omega), if_pos hs10]
            exact hF s hs10
          · rw [if_pos (by omega), if_neg hs10]
            rfl
    exact key _ 0 B0 x0 rfl (by omega) hJ0 hF0
  intro P hP
  have turn : ∀ (t : Nat) (B : Nat → Nat → Int) (x : Int), t < 2 → J t 0 0 B x → (∀ B' x', J t r 0 B' x' → P B' x' ((t + 1 : Nat) : Int)) → P B x (t : Int) := by
    intro t B x ht hJB hn
    refine hP B x _ ⟨⟨by omega, by omega⟩, fun d => by omega, fun d => wq_firstPlan (p := 0) (by decide) (fun C hK hC => ?_)⟩
    have hJB2 := hJB
    rw [hJ] at hJB2
    obtain ⟨hZ, hokB, hpB, hx, h0, h1⟩ := hJB2
    refine outer t ht P hn C x ?_ (fun s hs => ?_)
    · rw [hJ]
      refine ⟨lq_Z_trans hZ (lq_Z_K hK), hb_ok_K (by decide) hK hokB, fun s => ?_, hx, h0, fun e => ⟨(h1 e).1, fun i' j' a0 a b => ?_⟩⟩
      · rw [hC s]
        split
        · omega
        · exact hpB s
      · rw [hb_v_K (by decide) hK]
        exact (h1 e).2 i' j' a0 a b
    · rw [hC s, if_pos (by omega)]
      rfl
  refine turn 0 A 0 (by decide) ?_ (fun B x hJB => turn 1 B x (by decide) ?_ (fun B' x' hJB' => ?_))
  · rw [hJ]
    exact ⟨lq_Z_refl A, hok, hpl, by omega, fun _ i' j' a b => by omega, fun e => by omega⟩
  · rw [hJ] at hJB ⊢
    obtain ⟨hZ, hokB, hpB, hx, h0, h1⟩ := hJB
    exact ⟨hZ, hokB, hpB, hx, fun e => by omega, fun _ => ⟨fun i' j' a b => h0 rfl i' j' b (by omega), fun i' j' a0 a b => by omega⟩⟩
  · rw [hJ] at hJB'
    obtain ⟨hZ, hokB, hpB, hx, h0, h1⟩ := hJB'
    obtain ⟨h2, h3⟩ := h1 rfl
    refine hP B' x' _ ⟨⟨by omega, by omega⟩, fun _ => ?_, fun d => by omega⟩
    refine hQ (1 - x') B' (fun i j => V i j + 1 - x') hZ hokB hpB (fun i j hi hj => ⟨?_, h3 i j hi hj (by omega)⟩) (by omega) (by omega)
    have := h2 i j hi hj
    have := hVr i j
    omega

-- 43.work2
theorem wq_work {z : Nat → Int} {m nc : Nat} {a : Nat → Nat → Int} {A : Nat → Nat → Int} {Q : (Nat → Nat → Int) → Prop} (m0 : 0 < m) (hm : m ≤ 64) (n0 : 0 < nc) (hn : nc ≤ 64) (ha : ∀ i j : Nat, i < m → j < nc → (1 ≤ a i j ∧ a i j ≤ 2199023255552) ∧ hb_v A (65 * i + j) = a i j) (hok : hb_ok A)
    (hQ : ∀ B, lq_Y A B → hb_ok B → 0 < hb_v B (65 * m + nc) → hb_v B (65 * m + nc) ≤ 142936511610880 ^ 65 → 0 < hb_v B 4225 → hb_v B 4225 ≤ 142936511610880 ^ 65 → Q B) : wp_work z A m nc Q := by
  have yX : ∀ {B C : Nat → Nat → Int} {w : Int}, w < 4227 → hb_X (fun x => x = w) B C → lq_Y B C := fun hw h => lq_Y_X h (fun u e => by omega)
  have y54 : ∀ (B : Nat → Nat → Int) (i v : Int), lq_Y B (hz_s B 54 i v) := fun B i v => ⟨fun k a b c => hb_s_other b, fun u _ _ => by rw [hb_s_other (by decide), hb_s_other (by decide), hb_s_other (by decide)]; exact ⟨rfl, rfl, fun _ _ _ => rfl⟩⟩
  have y55 : ∀ (B : Nat → Nat → Int) (i v : Int), lq_Y B (hz_s B 55 i v) := fun B i v => ⟨fun k a b c => hb_s_other c, fun u _ _ => by rw [hb_s_other (by decide), hb_s_other (by decide), hb_s_other (by decide)]; exact ⟨rfl, rfl, fun _ _ _ => rfl⟩⟩
  have v54 : ∀ (B : Nat → Nat → Int) (i v w : Int), hb_v (hz_s B 54 i v) w = hb_v B w := fun B i v w => hb_v_K (by decide) (lq_K_s 54 B i v) w
  have v55 : ∀ (B : Nat → Nat → Int) (i v w : Int), hb_v (hz_s B 55 i v) w = hb_v B w := fun B i v w => hb_v_K (by decide) (lq_K_s 55 B i v) w
  have ok54 : ∀ (B : Nat → Nat → Int) (i v : Int), hb_ok B → hb_ok (hz_s B 54 i v) := fun B i v h => hb_ok_K (by decide) (lq_K_s 54 B i v) h
  have ok55 : ∀ (B : Nat → Nat → Int) (i v : Int), hb_ok B → hb_ok (hz_s B 55 i v) := fun B i v h => hb_ok_K (by decide) (lq_K_s 55 B i v) h
  -- the goal's row
  have second : ∀ B, lq_Y A B → hb_ok B → (∀ i j : Nat, i < m → j < nc → hb_v B (65 * i + j) = a i j) → (∀ i : Nat, i < m → hb_v B (65 * i + nc) = 1) → (∀ i : Nat, i < m → B 54 i = (100 + i : Nat)) → wp_work_36 z B m nc 0 Q := by
    intro B0 hY0 hok0 hc0 hr0 h540
    intro P hP
    have key : ∀ (k j : Nat) (B : Nat → Nat → Int), nc - j = k → j ≤ nc → lq_Y A B → hb_ok B → (∀ i j : Nat, i < m → j < nc → hb_v B (65 * i + j) = a i j) → (∀ i : Nat, i < m → hb_v B (65 * i + nc) = 1) → (∀ i : Nat, i < m → B 54 i = (100 + i : Nat)) → (∀ j' : Nat, j' < j → hb_v B (65 * m + j') = -1 ∧ B 55 j' = (j' : Nat)) → P B (j : Int) := by
      intro k
      induction k with
      | zero =>
        intro j B hk hj hY hokB hc hr h54 hg
        have ej : j = nc := by omega
        subst ej
        refine hP B _ ⟨⟨by omega, by omega⟩, ⟨by omega, by omega⟩, fun _ => ?_, fun d => by omega⟩
        refine wq_bigSet (by omega) (by omega) (by omega) (fun B1 hX1 hW1 hv1 _ => ?_)
        have hok1 := hb_ok_one hokB hX1 hW1
        refine wq_bigSet (by decide) (by decide) (by omega) (fun B2 hX2 hW2 hv2 _ => ?_)
        have hok2 := hb_ok_one hok1 hX2 hW2
        have s12 : ∀ y : Int, 0 ≤ y → y < 4225 → y ≠ 65 * m + j → hb_v B2 y = hb_v B y := fun y y0 y1 ne => by
          rw [hb_X_v hX2 y0 (by omega) (by omega) (hok1 y y0 (by omega)), hb_X_v hX1 y0 (by omega) ne (hokB y y0 (by omega))]
        have hY2 : lq_Y A B2 := lq_Y_trans hY (lq_Y_trans (yX (by omega) hX1) (yX (by decide) hX2))
        have e54 : B2 54 = B 54 := by rw [hX2.1 54 (by decide), hX1.1 54 (by decide)]
        have e55 : B2 55 = B 55 := by rw [hX2.1 55 (by decide), hX1.1 55 (by decide)]
        obtain ⟨hT, hz, hh, hneg⟩ := lq_start (a := a) hm hn hok2 hv2 (fun i j' hi hj' => by rw [s12 _ (by omega) (by omega) (by omega)]; exact hc i j' hi hj') (fun i hi => by rw [s12 _ (by omega) (by omega) (by omega)]; exact hr i hi) (fun j' hj' => by rw [s12 _ (by omega) (by omega) (by omega)]; exact (hg j' hj').1) (by rw [hb_X_v hX2 (by omega) (by omega) (by omega) (hok1 _ (by omega) (by omega))]; exact hv1) (fun k hk => by rw [e54]; exact h54 k hk) (fun j' hj' => by rw [e55]; exact (hg j' hj').2)
        refine wq_gaining (by omega) (by omega) (by omega) (by omega) hok2 (fun j' j0 j1 => ?_) (fun x hx => ?_)
        · have := (hg j'.toNat (by omega)).2
          rw [e55, this]
          omega
        · refine wq_work_loop m0 hm hn (fun i j' hi hj' => (ha i j' hi hj').1) hQ hY2 hT (Or.inr ⟨hz, fun i hi => by rw [hh i hi]; decide, 0, Or.inl n0, by rw [hneg 0 n0]; decide⟩) hx
      | succ k ih =>
        intro j B hk hj hY hokB hc hr h54 hg
        refine hP B _ ⟨⟨by omega, by omega⟩, ⟨by omega, by omega⟩, fun d => by omega, fun d => ?_⟩
        refine wq_bigSet (by omega) (by omega) (by omega) (fun B1 hX1 hW1 hv1 _ => ⟨⟨by omega, by omega⟩, fun B2 hB2 x hx => ?_⟩)
        have hok1 := hb_ok_one hokB hX1 hW1
        have e : x = ((j + 1 : Nat) : Int) := by omega
        have s1 : ∀ y : Int, 0 ≤ y → y < 4225 → y ≠ 65 * m + j → hb_v B2 y = hb_v B y := fun y y0 y1 ne => by
          rw [hB2, v55, hb_X_v hX1 y0 (by omega) ne (hokB y y0 (by omega))]
        rw [e]
        refine ih (j + 1) B2 (by omega) (by omega) (lq_Y_trans hY (lq_Y_trans (yX (by omega) hX1) (by rw [hB2]; exact y55 _ _ _))) (by rw [hB2]; exact ok55 _ _ _ hok1) (fun i j' hi hj' => by rw [s1 _ (by omega) (by omega) (by omega)]; exact hc i j' hi hj') (fun i hi => by rw [s1 _ (by omega) (by omega) (by omega)]; exact hr i hi) (fun i hi => by rw [hB2, hb_s_other (by decide), hX1.1 54 (by decide)]; exact h54 i hi) (fun j' hj' => ?_)
        by_cases ej : j' = j
        · subst ej
          refine ⟨by rw [hB2, v55]; exact hv1, ?_⟩
          rw [hB2, lq_s_fun]
          unfold hz_u
          rw [if_pos (by omega)]
        · refine ⟨by rw [s1 _ (by omega) (by omega) (by omega)]; exact (hg j' (by omega)).1, ?_⟩
          rw [hB2, lq_s_fun]
          unfold hz_u
          rw [if_neg (by omega), hX1.1 55 (by decide)]
          exact (hg j' (by omega)).2
    exact key _ 0 B0 rfl (by omega) hY0 hok0 hc0 hr0 h540 (fun j' hj' => by omega)
  intro P hP
  have key : ∀ (k i : Nat) (B : Nat → Nat → Int), m - i = k → i ≤ m → lq_Y A B → hb_ok B → (∀ i j : Nat, i < m → j < nc → hb_v B (65 * i + j) = a i j) → (∀ i' : Nat, i' < i → hb_v B (65 * i' + nc) = 1 ∧ B 54 i' = (100 + i' : Nat)) → P B (i : Int) := by
    intro k
    induction k with
    | zero =>
      intro i B hk hi hY hokB hc hg
      have ei : i = m := by omega
      subst ei
      exact hP B _ ⟨⟨by omega, by omega⟩, ⟨by omega, by omega⟩, fun _ => second B hY hokB hc (fun i' hi' => (hg i' hi').1) (fun i' hi' => (hg i' hi').2), fun d => by omega⟩
    | succ k ih =>
      intro i B hk hi hY hokB hc hg
      refine hP B _ ⟨⟨by omega, by omega⟩, ⟨by omega, by omega⟩, fun d => by omega, fun d => ?_⟩
      refine wq_bigSet (by omega) (by omega) (by omega) (fun B1 hX1 hW1 hv1 _ => ⟨⟨by omega, by omega⟩, fun B2 hB2 x hx => ?_⟩)
      have hok1 := hb_ok_one hokB hX1 hW1
      have e : x = ((i + 1 : Nat) : Int) := by omega
      have s1 : ∀ y : Int, 0 ≤ y → y < 4225 → y ≠ 65 * i + nc → hb_v B2 y = hb_v B y := fun y y0 y1 ne => by
        rw [hB2, v54, hb_X_v hX1 y0 (by omega) ne (hokB y y0 (by omega))]
      rw [e]
      refine ih (i + 1) B2 (by omega) (by omega) (lq_Y_trans hY (lq_Y_trans (yX (by omega) hX1) (by rw [hB2]; exact y54 _ _ _))) (by rw [hB2]; exact ok54 _ _ _ hok1) (fun i' j' hi' hj' => by rw [s1 _ (by omega) (by omega) (by omega)]; exact hc i' j' hi' hj') (fun i' hi' => ?_)
      by_cases ei : i' = i
      · subst ei
        refine ⟨by rw [hB2, v54]; exact hv1, ?_⟩
        rw [hB2, lq_s_fun]
        unfold hz_u
        rw [if_pos (by omega)]
        omega
      · refine ⟨by rw [s1 _ (by omega) (by omega) (by omega)]; exact (hg i' (by omega)).1, ?_⟩
        rw [hB2, lq_s_fun]
        unfold hz_u
        rw [if_neg (by omega), hX1.1 54 (by decide)]
        exact (hg i' (by omega)).2
  exact key _ 0 A rfl (by omega) (lq_Y_refl A) hok (fun i j hi hj => (ha i j hi hj).2) (fun i' hi' => by omega)
/-- in least terms: what is above and below, without what they have in common -/
theorem wq_settle {z : Nat → Int} {A : Nat → Nat → Int} {t : Int} {Q : (Nat → Nat → Int) → Prop} (t0 : 4227 ≤ t) (t1 : t + 1 < 4243) (hok : hb_ok A) (hb : 0 < hb_v A 4244) (h1 : hb_z A 4243 / (Nat.gcd (hb_z A 4243).toNat (hb_z A 4244).toNat : Nat) < 16777216 ^ 130) (h2 : hb_z A 4244 / (Nat.gcd (hb_z A 4243).toNat (hb_z A 4244).toNat : Nat) < 16777216 ^ 130)
    (hQ : ∀ B, hb_X (fun x => x = t ∨ x = t + 1 ∨ 4243 ≤ x) A B → hb_ok B → hb_v B t = hb_v A 4243 / (Nat.gcd (hb_z A 4243).toNat (hb_z A 4244).toNat : Nat) → hb_v B (t + 1) = hb_v A 4244 / (Nat.gcd (hb_z A 4243).toNat (hb_z A 4244).toNat : Nat) → Q B) : wp_settle z A t Q := by
  have r : ∀ y : Int, 4243 ≤ y → hb_r y = 270 := fun y h => by unfold hb_r; rw [if_pos h]
  have r2 : ∀ y : Int, y < 4243 → hb_r y = 130 := fun y h => by unfold hb_r; rw [if_neg (by omega)]
  have W : ∀ (B : Nat → Nat → Int), hb_ok B → ∀ y : Int, 4243 ≤ y → y < 4250 → hb_W B y := fun B h y y0 y1 => h y (by omega) y1
  have len : ∀ (B : Nat → Nat → Int), hb_ok B → ∀ y : Int, 4243 ≤ y → y < 4250 → B 1 y.toNat ≤ 270 := fun B h y y0 y1 => by
    have := (W B h y y0 y1).1
    rw [r y y0] at this
    exact this.2
  obtain ⟨G, hG⟩ : ∃ G : Nat, G = Nat.gcd (hb_z A 4243).toNat (hb_z A 4244).toNat := ⟨_, rfl⟩
  rw [← hG] at h1 h2 hQ
  have na := hb_z_nonneg (hb_W_P (W A hok 4243 (by decide) (by decide)))
  have nb := hb_z_nonneg (hb_W_P (W A hok 4244 (by decide) (by decide)))
  have sb : A 2 (4244 : Int).toNat = 0 ∧ hb_z A 4244 = hb_v A 4244 := by
    unfold hb_v at hb ⊢
    by_cases c : A 2 (4244 : Int).toNat = 0
    · rw [if_pos c]
      exact ⟨c, rfl⟩
    · rw [if_neg c] at hb
      omega
  have zb : 0 < hb_z A 4244 := by omega
  have Gpos : 0 < G := by
    rw [hG]
    exact Nat.gcd_pos_of_pos_right _ (by omega)
  have ga : ((G : Nat) : Int) ∣ hb_z A 4243 := by
    have h := Int.natCast_dvd_natCast.mpr (show G ∣ (hb_z A 4243).toNat by rw [hG]; exact Nat.gcd_dvd_left _ _)
    have e : (((hb_z A 4243).toNat : Nat) : Int) = hb_z A 4243 := by omega
    rw [e] at h
    exact h
  have gb : ((G : Nat) : Int) ∣ hb_z A 4244 := by
    have h := Int.natCast_dvd_natCast.mpr (show G ∣ (hb_z A 4244).toNat by rw [hG]; exact Nat.gcd_dvd_right _ _)
    have e : (((hb_z A 4244).toNat : Nat) : Int) = hb_z A 4244 := by omega
    rw [e] at h
    exact h
  have hfin : ∀ B, hb_X (fun x => 4243 ≤ x) A B → hb_ok B → hb_v B 4243 = hb_v A 4243 / (G : Int) → hb_v B 4244 = hb_v A 4244 / (G : Int) → wp_settle_150 z B t Q := by
    intro B hX hokB hv1 hv2
    have WB3 := W B hokB 4243 (by decide) (by decide)
    have WB4 := W B hokB 4244 (by decide) (by decide)
    have z3 : hb_z B 4243 < 16777216 ^ 130 := by
      rw [hb_z_abs WB3, hv1]
      have e : ((hb_v A 4243 / (G : Int)).natAbs : Int) = hb_z A 4243 / (G : Int) := by
        obtain ⟨q, hq⟩ := ga
        unfold hb_v
        split
        · rw [hq, Int.mul_ediv_cancel_left _ (by omega)]
          have : 0 ≤ q := by
            apply Classical.byContradiction
            intro hc
            have := Int.mul_neg_of_pos_of_neg (show (0 : Int) < G by omega) (show q < 0 by omega)
            omega
          omega
        · have e2 : - hb_z A 4243 = (G : Int) * (-q) := by rw [hq, Int.mul_neg]
          rw [e2, hq, Int.mul_ediv_cancel_left _ (by omega), Int.mul_ediv_cancel_left _ (by omega)]
          have : 0 ≤ q := by
            apply Classical.byContradiction
            intro hc
            have := Int.mul_neg_of_pos_of_neg (show (0 : Int) < G by omega) (show q < 0 by omega)
            omega
          omega
      rw [e]
      exact h1
    have z4 : hb_z B 4244 < 16777216 ^ 130 := by
      rw [hb_z_abs WB4, hv2, ← sb.2]
      have : 0 ≤ hb_z A 4244 / (G : Int) := Int.ediv_nonneg nb (by omega)
      omega
    have l3 := hb_len_le WB3 z3
    have l4 := hb_len_le WB4 z4
    refine wq_bigCopy (by omega) (by omega) (by decide) (by decide) (by omega) WB3 (by rw [r2 t (by omega)]; exact l3) (fun B2 hX2 hW2 hz2 hs2 hl2 => ?_)
    have hok2 := hb_ok_one hokB hX2 hW2
    refine wq_bigCopy (by omega) (by omega) (by decide) (by decide) (by omega) (W B2 hok2 4244 (by decide) (by decide)) (by rw [r2 (t + 1) (by omega), (hX2.2 4244 (by decide) (by decide) (by omega)).1]; exact l4) (fun B4 hX4 hW4 hz4 hs4 hl4 => ?_)
    refine hQ B4 (hb_X_trans (hb_X_trans (hb_X_mono (fun u e => by omega) hX) (hb_X_mono (fun u e => by omega) hX2)) (hb_X_mono (fun u e => by omega) hX4)) (hb_ok_one hok2 hX4 hW4) ?_ ?_
    · rw [hb_X_v hX4 (by omega) (by omega) (by omega) hW2, hb_copy_v hz2 hs2, hv1]
    · rw [hb_copy_v hz4 hs4, hb_X_v hX2 (by decide) (by decide) (by omega) WB4, hv2]
  refine wq_bigIsZero (by decide) (by decide) (W A hok 4243 (by decide) (by decide)) ⟨by split <;> exact ⟨by decide, by decide⟩, fun nz => ?_, fun iz => ?_⟩
  · have hza : hb_z A 4243 ≠ 0 := fun e => by rw [if_pos e] at nz; omega
    refine wq_bigCopy (by decide) (by decide) (by decide) (by decide) (by decide) (W A hok 4243 (by decide) (by decide)) (by rw [r 4245 (by decide)]; exact len A hok _ (by decide) (by decide)) (fun A26 hX26 hW26 hz26 hs26 hl26 A27 hA27 => ?_)
    obtain ⟨hW27, hz27, hs27⟩ := hb_s2_W hA27 (Or.inl rfl) hW26
    have hX27 : hb_X (fun x => x = 4245) A26 A27 := by rw [hA27]; exact hb_X_s2 (by decide)
    have hok26 := hb_ok_one hok hX26 hW26
    have hok27 := hb_ok_one hok26 hX27 hW27
    have hX027 : hb_X (fun x => x = 4245) A A27 := hb_X_trans hX26 hX27
    refine wq_bigCopy (by decide) (by decide) (by decide) (by decide) (by decide) (W A27 hok27 4244 (by decide) (by decide)) (by rw [r 4249 (by decide)]; exact len A27 hok27 _ (by decide) (by decide)) (fun A29 hX29 hW29 hz29 hs29 hl29 => ?_)
    have hok29 := hb_ok_one hok27 hX29 hW29
    have hX029 : hb_X (fun x => 4245 ≤ x) A A29 := hb_X_trans (hb_X_mono (fun u e => by omega) hX027) (hb_X_mono (fun u e => by omega) hX29)
    intro P hP
    have key : ∀ (k : Nat) (B : Nat → Nat → Int), (hb_z B 4249).toNat = k → hb_X (fun x => 4245 ≤ x) A B → hb_ok B → 0 < hb_z B 4245 ∨ 0 < hb_z B 4249 → Nat.gcd (hb_z B 4245).toNat (hb_z B 4249).toNat = G → P B := by
      intro k
      induction k using Nat.strongRecOn with
      | ind k ih =>
        intro B hk hX hokB hpos hgcd
        have nC := hb_z_nonneg (hb_W_P (W B hokB 4245 (by decide) (by decide)))
        have nS := hb_z_nonneg (hb_W_P (W B hokB 4249 (by decide) (by decide)))
        have v3 : hb_v B 4243 = hb_v A 4243 := hb_X_v hX (by decide) (by decide) (by decide) (W A hok 4243 (by decide) (by decide))
        have v4 : hb_v B 4244 = hb_v A 4244 := hb_X_v hX (by decide) (by decide) (by decide) (W A hok 4244 (by decide) (by decide))
        refine hP B (wq_bigIsZero (by decide) (by decide) (W B hokB 4249 (by decide) (by decide)) ⟨by split <;> exact ⟨by decide, by decide⟩, fun sz => ?_, fun snz => ?_⟩)
        · have hs0 : hb_z B 4249 = 0 := by
            apply Classical.byContradiction
            intro hne
            rw [if_neg hne] at sz
            exact sz rfl
          have hC : hb_z B 4245 = (G : Int) := by
            rw [hs0] at hgcd
            simp only [Int.toNat_zero, Nat.gcd_zero_right] at hgcd
            omega
          refine wq_bigIsOne (by decide) (by decide) (W B hokB 4245 (by decide) (by decide)) ⟨by split <;> exact ⟨by decide, by decide⟩, fun one => ?_, fun none => ?_⟩
          · have hG1 : (G : Int) = 1 := by
              rw [← hC]
              apply Classical.byContradiction
              intro hne
              rw [if_neg hne] at one
              exact one rfl
            exact hfin B (hb_X_mono (fun u e => by omega) hX) hokB (by rw [v3, hG1, Int.ediv_one]) (by rw [v4, hG1, Int.ediv_one])
          · refine wq_divideAll (by decide) (by decide) (by decide) (by decide) hokB (by rw [hC]; omega) (fun C hXC hokC hzC hvC => ?_)
            have zC5 : hb_z C 4245 = (G : Int) := by rw [hb_X_z hXC (by decide) (by decide) (by omega) (W B hokB 4245 (by decide) (by decide)), hC]
            have vC4 : hb_v C 4244 = hb_v A 4244 := by rw [hb_X_v hXC (by decide) (by decide) (by omega) (W B hokB 4244 (by decide) (by decide)), v4]
            have vC3 : hb_v C 4243 = hb_v A 4243 / (G : Int) := by
              rw [hvC, hC]
              obtain ⟨q, hq⟩ : ∃ q, hb_v B 4243 = (G : Int) * q := by
                rw [v3]
                obtain ⟨q, hq⟩ := ga
                unfold hb_v
                split
                · exact ⟨q, hq⟩
                · exact ⟨-q, by rw [hq, Int.mul_neg]⟩
              rw [hb_exact (by omega) hq, ← v3, hq, Int.mul_ediv_cancel_left _ (by omega)]
            refine wq_divideAll (by decide) (by decide) (by decide) (by decide) hokC (by rw [zC5]; omega) (fun E hXE hokE hzE hvE => ?_)
            refine hfin E (hb_X_trans (hb_X_trans (hb_X_mono (fun u e => by omega) hX) (hb_X_mono (fun u e => by omega) hXC)) (hb_X_mono (fun u e => by omega) hXE)) hokE ?_ ?_
            · rw [hb_X_v hXE (by decide) (by decide) (by omega) (W C hokC 4243 (by decide) (by decide)), vC3]
            · rw [hvE, zC5]
              obtain ⟨q, hq⟩ : ∃ q, hb_v C 4244 = (G : Int) * q := by
                rw [vC4, ← sb.2]
                obtain ⟨q, hq⟩ := gb
                exact ⟨q, hq⟩
              rw [hb_exact (by omega) hq, ← vC4, hq, Int.mul_ediv_cancel_left _ (by omega)]
        · have hs0 : 0 < hb_z B 4249 := by
            have : hb_z B 4249 ≠ 0 := fun e => by rw [if_pos e] at snz; omega
            omega
          refine wq_bigCopy (by decide) (by decide) (by decide) (by decide) (by decide) (W B hokB 4249 (by decide) (by decide)) (by rw [r 4248 (by decide)]; exact len B hokB _ (by decide) (by decide)) (fun B14 hX14 hW14 hz14 hs14 hl14 => ?_)
          have hok14 := hb_ok_one hokB hX14 hW14
          have z145 : hb_z B14 4245 = hb_z B 4245 := hb_X_z hX14 (by decide) (by decide) (by decide) (W B hokB 4245 (by decide) (by decide))
          have z149 : hb_z B14 4249 = hb_z B 4249 := hb_X_z hX14 (by decide) (by decide) (by decide) (W B hokB 4249 (by decide) (by decide))
          have ne8 : B14 1 (4248 : Int).toNat ≠ 0 := fun e => by
            have := (hb_z_zero hW14).mp e
            omega
          have l5 := len B14 hok14 4245 (by decide) (by decide)
          have l8 := hW14.1
          refine wq_bigDivide (by decide) (by decide) (by decide) (by decide) (by decide) (by decide) (by decide) (by decide) (by decide) (W B14 hok14 4245 (by decide) (by decide)) hW14 (by rw [hz14]; exact hs0) (by rw [r 4246 (by decide)]; omega) (fun B16 hX16 hW165 hW166 hz166 hz165 hs165 hs166 => ?_)
          have hok16 : hb_ok B16 := hb_X_ok hX16 hok14 (fun u _ _ e => by rcases e with e | e <;> rw [e] <;> assumption)
          rw [z145, hz14] at hz165
          have z169 : hb_z B16 4249 = hb_z B 4249 := by rw [hb_X_z hX16 (by decide) (by decide) (by decide) (W B14 hok14 4249 (by decide) (by decide)), z149]
          refine wq_bigCopy (by decide) (by decide) (by decide) (by decide) (by decide) (W B16 hok16 4245 (by decide) (by decide)) (by rw [r 4247 (by decide)]; exact len B16 hok16 _ (by decide) (by decide)) (fun B18 hX18 hW18 hz18 hs18 hl18 => ?_)
          have hok18 := hb_ok_one hok16 hX18 hW18
          have z189 : hb_z B18 4249 = hb_z B 4249 := by rw [hb_X_z hX18 (by decide) (by decide) (by decide) (W B16 hok16 4249 (by decide) (by decide)), z169]
          refine wq_bigCopy (by decide) (by decide) (by decide) (by decide) (by decide) (W B18 hok18 4249 (by decide) (by decide)) (by rw [r 4245 (by decide)]; exact len B18 hok18 _ (by decide) (by decide)) (fun B20 hX20 hW20 hz20 hs20 hl20 => ?_)
          have hok20 := hb_ok_one hok18 hX20 hW20
          have z207 : hb_z B20 4247 = hb_z B 4245 % hb_z B 4249 := by rw [hb_X_z hX20 (by decide) (by decide) (by decide) hW18, hz18, hz165]
          refine wq_bigCopy (by decide) (by decide) (by decide) (by decide) (by decide) (W B20 hok20 4247 (by decide) (by decide)) (by rw [r 4249 (by decide)]; exact len B20 hok20 _ (by decide) (by decide)) (fun B22 hX22 hW22 hz22 hs22 hl22 => ?_)
          have hok22 := hb_ok_one hok20 hX22 hW22
          have z225 : hb_z B22 4245 = hb_z B 4249 := by rw [hb_X_z hX22 (by decide) (by decide) (by decide) hW20, hz20, z189]
          have z229 : hb_z B22 4249 = hb_z B 4245 % hb_z B 4249 := by rw [hz22, z207]
          have hm0 : 0 ≤ hb_z B 4245 % hb_z B 4249 := Int.emod_nonneg _ (by omega)
          have hm1 : hb_z B 4245 % hb_z B 4249 < hb_z B 4249 := Int.emod_lt_of_pos _ hs0
          refine ih (hb_z B22 4249).toNat (by rw [z229]; omega) B22 rfl ?_ hok22 (Or.inl (by rw [z225]; exact hs0)) ?_
          · exact hb_X_trans (hb_X_trans (hb_X_trans (hb_X_trans (hb_X_trans hX (hb_X_mono (fun u e => by omega) hX14)) (hb_X_mono (fun u e => by omega) hX16)) (hb_X_mono (fun u e => by omega) hX18)) (hb_X_mono (fun u e => by omega) hX20)) (hb_X_mono (fun u e => by omega) hX22)
          · rw [z225, z229, ← hgcd]
            have em : (hb_z B 4245 % hb_z B 4249).toNat = (hb_z B 4245).toNat % (hb_z B 4249).toNat := Int.toNat_emod nC nS
            rw [em, Nat.gcd_comm (hb_z B 4249).toNat, ← Nat.gcd_rec, Nat.gcd_comm]
    refine key _ A29 rfl hX029 hok29 ?_ ?_
    · refine Or.inl ?_
      rw [hb_X_z hX29 (by decide) (by decide) (by decide) hW27, hz27, hz26]
      omega
    · rw [hb_X_z hX29 (by decide) (by decide) (by decide) hW27, hz27, hz26, hz29, hb_X_z hX027 (by decide) (by decide) (by decide) (W A hok 4244 (by decide) (by decide)), hG]
  · have hza : hb_z A 4243 = 0 := by
      apply Classical.byContradiction
      intro hne
      rw [if_neg hne] at iz
      exact iz rfl
    have hG2 : (G : Int) = hb_z A 4244 := by
      rw [hG, hza]
      simp only [Int.toNat_zero, Nat.gcd_zero_left]
      omega
    have hva : hb_v A 4243 = 0 := by
      unfold hb_v
      rw [hza]
      split <;> rfl
    refine wq_bigSet (by omega) (by omega) (by omega) (fun B1 hX1 hW1 hv1 _ => ?_)
    have hok1 := hb_ok_one hok hX1 hW1
    refine wq_bigSet (by omega) (by omega) (by omega) (fun B2 hX2 hW2 hv2 _ => ?_)
    refine hQ B2 (hb_X_trans (hb_X_mono (fun u e => by omega) hX1) (hb_X_mono (fun u e => by omega) hX2)) (hb_ok_one hok1 hX2 hW2) ?_ ?_
    · rw [hb_X_v hX2 (by omega) (by omega) (by omega) hW1, hv1, hva, Int.zero_ediv]
    · rw [hv2, hG2, ← sb.2, Int.ediv_self (by omega)]

-- 44.solve
/-- how many plans -/
noncomputable def lq_pp (A : Nat → Nat → Int) (g p : Nat) : Nat → Int
  | 0 => 1
  | k + 1 => lq_pp A g p k * A 28 (20 * g + (10 * p + k))
/-- the sets of a player -/
noncomputable def mg_S (A : Nat → Nat → Int) (g p : Nat) : Prop := (0 ≤ A 26 (2 * g + p) ∧ A 26 (2 * g + p) ≤ 10) ∧ ∀ s : Nat, (s : Int) < A 26 (2 * g + p) → 1 ≤ A 28 (20 * g + (10 * p + s)) ∧ A 28 (20 * g + (10 * p + s)) ≤ 4
/-- a game that was read -/
noncomputable def mg_G (A : Nat → Nat → Int) (g : Nat) : Prop := mg_E A g ∧ mg_S A g 0 ∧ mg_S A g 1 ∧ lq_pp A g 0 (A 26 (2 * g + 0)).toNat ≤ 64 ∧ lq_pp A g 1 (A 26 (2 * g + 1)).toNat ≤ 64 ∧ (1 ≤ A 25 g ∧ A 25 g < 1000000000)
theorem lq_pp_pos {A : Nat → Nat → Int} {g p : Nat} (h : mg_S A g p) (n : Nat) (hn : (n : Int) ≤ A 26 (2 * g + p)) : 1 ≤ lq_pp A g p n := by
  induction n with
  | zero => exact Int.le_refl _
  | succ n ih =>
    have h1 := ih (by omega)
    have h2 := (h.2 n (by omega)).1
    simp only [lq_pp]
    have h3 : lq_pp A g p n * 1 ≤ lq_pp A g p n * A 28 (20 * g + (10 * p + n)) := Int.mul_le_mul_of_nonneg_left h2 (by omega)
    omega
theorem wq_plansOf {z : Nat → Int} {A : Nat → Nat → Int} {g p : Nat} {Q : Int → Prop} (hg : g < 2) (hp : p < 2) (hS : 0 ≤ A 26 (2 * g + p) ∧ A 26 (2 * g + p) ≤ 10) (hQ : Q (lq_pp A g p (A 26 (2 * g + p)).toNat)) : wp_plansOf z A (g : Int) (p : Int) Q := by
  have e1 : (2 * (g : Int) + (p : Int)).toNat = 2 * g + p := by omega
  intro P hP
  have key : ∀ (k s : Nat), (A 26 (2 * g + p)).toNat - s = k → (s : Int) ≤ A 26 (2 * g + p) → P (lq_pp A g p s) (s : Int) := by
    intro k
    induction k with
    | zero =>
      intro s hk hs
      have es : (A 26 (2 * g + p)).toNat = s := by omega
      refine hP _ _ ⟨⟨by omega, by omega⟩, ⟨by omega, by omega⟩, by rw [e1]; exact ⟨by omega, by omega⟩, fun _ => ?_, fun c => by rw [e1] at c; omega⟩
      rw [es] at hQ
      exact hQ
    | succ k ih =>
      intro s hk hs
      refine hP _ _ ⟨⟨by omega, by omega⟩, ⟨by omega, by omega⟩, by rw [e1]; exact ⟨by omega, by omega⟩, fun c => by rw [e1] at c; omega, fun c => ⟨⟨by omega, by omega⟩, fun x hx x4 hx4 => ?_⟩⟩
      have e2 : (20 * (g : Int) + 10 * (p : Int) + (s : Int)).toNat = 20 * g + (10 * p + s) := by omega
      rw [e2] at hx
      have e4 : x4 = ((s + 1 : Nat) : Int) := by omega
      rw [hx, e4]
      exact ih (s + 1) (by omega) (by omega)
  exact key _ 0 rfl (by omega)
/-- what solve() leaves alone -/
noncomputable def ms_Z (A B : Nat → Nat → Int) : Prop := ∀ k, 2 < k → k ≠ 51 → k ≠ 52 → k ≠ 53 → k ≠ 54 → k ≠ 55 → k ≠ 56 → B k = A k
theorem ms_Z_refl (A : Nat → Nat → Int) : ms_Z A A := fun _ _ _ _ _ _ _ _ => rfl
theorem ms_Z_trans {A B C : Nat → Nat → Int} (h1 : ms_Z A B) (h2 : ms_Z B C) : ms_Z A C := fun k a b c d e f g => (h2 k a b c d e f g).trans (h1 k a b c d e f g)
theorem ms_Z_X {ws : Int → Prop} {A B : Nat → Nat → Int} (h : hb_X ws A B) : ms_Z A B := fun k a _ _ _ _ _ _ => h.1 k a
theorem ms_Z_Z {A B : Nat → Nat → Int} (h : lq_Z A B) : ms_Z A B := fun k a _ c _ d e _ => h.1 k a c d e
theorem ms_Z_Y {A B : Nat → Nat → Int} (h : lq_Y A B) : ms_Z A B := ms_Z_Z (lq_Z_Y h)
theorem ms_Z_K {q : Nat} {A B : Nat → Nat → Int} (hq : q = 51 ∨ q = 52 ∨ q = 53 ∨ q = 54 ∨ q = 55 ∨ q = 56) (h : lq_K q A B) : ms_Z A B := fun k a b c d e f g => h k (by omega)
theorem lq_big {x y : Int} (hx : 1 ≤ x) (hx2 : x ≤ 400000000001) (hy : 0 ≤ y) (hy2 : y ≤ 142936511610880 ^ 65) : 0 ≤ x * y ∧ x * y ≤ 400000000001 * 142936511610880 ^ 65 := by
  refine ⟨Int.mul_nonneg (by omega) hy, ?_⟩
  exact Int.le_trans (Int.mul_le_mul_of_nonneg_right hx2 hy) (Int.mul_le_mul_of_nonneg_left hy2 (by decide))
theorem lq_big2 : (400000000001 * 142936511610880 ^ 65 : Int) < 16777216 ^ 130 := by decide +kernel
theorem wq_solve {z : Nat → Int} {A : Nat → Nat → Int} {Q : (Nat → Int) → (Nat → Nat → Int) → Prop} (hk : z 34 = 0 ∨ z 34 = 1) (hG : z 34 = 1 → ∃ g : Nat, g < 2 ∧ z 32 = (g : Int) ∧ mg_G A g) (hok : hb_ok A) (hpl : ∀ s, 0 ≤ A 52 s ∧ A 52 s ≤ 100) (hth : ∀ s, A 51 s = 0 ∨ A 51 s = 1)
    (hQ : ∀ t B, (t = 0 ∨ t = 1) → ms_Z A B → hb_ok B → (∀ s, 0 ≤ B 52 s ∧ B 52 s ≤ 100) → (∀ s, B 51 s = 0 ∨ B 51 s = 1) → B 53 = A 53 → B 56 = A 56 → Q (lp_U z 3 t) B) : wp_solve z A Q := by
  refine ⟨by rcases hk with h | h <;> rw [h] <;> exact ⟨by decide, by decide⟩, fun c z1 hz1 => ?_, fun c z1 hz1 => ?_⟩
  · have e3 : z1 3 = 1 := by rw [hz1]; rfl
    rw [e3]
    refine ⟨⟨by decide, by decide⟩, fun d => by omega, fun _ => ?_⟩
    rw [hz1]
    exact hQ 1 A (Or.inr rfl) (ms_Z_refl A) hok hpl hth rfl rfl
  · have e3 : z1 3 = 0 := by rw [hz1]; rfl
    have e32 : z1 32 = z 32 := by rw [hz1]; rfl
    obtain ⟨g, hg, hgz, hE, hS0, hS1, hp0, hp1, hcm⟩ := hG (hk.resolve_left c)
    rw [e3]
    refine ⟨⟨by decide, by decide⟩, fun _ => ?_, fun d => by omega⟩
    rw [e32, hgz]
    have q0 := lq_pp_pos hS0 (A 26 (2 * g + 0)).toNat (by have := hS0.1; omega)
    have q1 := lq_pp_pos hS1 (A 26 (2 * g + 1)).toNat (by have := hS1.1; omega)
    refine wq_plansOf (p := 0) hg (by decide) hS0.1 (wq_plansOf (p := 1) hg (by decide) hS1.1 ?_)
    obtain ⟨r, hr⟩ : ∃ r : Nat, lq_pp A g 0 (A 26 (2 * g + 0)).toNat = (r : Int) := ⟨(lq_pp A g 0 (A 26 (2 * g + 0)).toNat).toNat, by omega⟩
    obtain ⟨c', hc'⟩ : ∃ r : Nat, lq_pp A g 1 (A 26 (2 * g + 1)).toNat = (r : Int) := ⟨(lq_pp A g 1 (A 26 (2 * g + 1)).toNat).toNat, by omega⟩
    rw [hr, hc']
    refine wq_fill (g := g) (n0 := (A 26 (2 * g + 0)).toNat) (n1 := (A 26 (2 * g + 1)).toNat) (by rw [e32]; exact hgz) hg hE (by have := hS0.1; omega) (by have := hS0.1; omega) (by have := hS1.1; omega) (by have := hS1.1; omega) (fun s hs => by have := hS0.2 s (by have := hS0.1; omega); omega) (fun s hs => by have := hS1.2 s (by have := hS1.1; omega); omega) hpl (by omega) (by omega) hok (fun x B a hZ hokB hplB haB hx0 hx1 => ?_)
    refine wq_work (a := a) (by omega) (by omega) (by omega) (by omega) haB hokB (fun C hY hokC hal hal2 hbe hbe2 => ?_)
    have hlen : ∀ (E : Nat → Nat → Int), hb_ok E → ∀ y : Int, 0 ≤ y → y < 4243 → E 1 y.toNat ≤ 130 := fun E hE' y y0 y1 => by
      have h1 := (hE' y y0 (by omega)).1
      have h2 : hb_r y = 130 := by unfold hb_r; rw [if_neg (by omega)]
      rw [h2] at h1
      exact h1.2
    have r3 : hb_r 4243 = 270 := by decide
    have r4 : hb_r 4244 = 270 := by decide
    refine wq_bigSet (by decide) (by decide) (by omega) (fun D hXD hWD hvD hlD => ?_)
    have hokD := hb_ok_one hokC hXD hWD
    have valD : hb_v D (65 * (r : Int) + c') = hb_v C (65 * (r : Int) + c') := hb_X_v hXD (by omega) (by omega) (by omega) (hokC _ (by omega) (by omega))
    have vbeD : hb_v D 4225 = hb_v C 4225 := hb_X_v hXD (by decide) (by decide) (by decide) (hokC _ (by decide) (by decide))
    have lal := hlen D hokD (65 * (r : Int) + c') (by omega) (by omega)
    refine wq_bigProduct (by decide) (by decide) (by decide) (by decide) (by omega) (by omega) (by decide) (by omega) hWD (hokD _ (by omega) (by omega)) (by omega) (fun E hXE hWE hvE hzE => ?_)
    have hokE := hb_ok_one hokD hXE hWE
    refine wq_turnSign (by decide) (by decide) hokE (fun F hXF hokF hvF hzF => ?_)
    have vF : hb_v F 4243 = -(x * hb_v C (65 * (r : Int) + c')) := by rw [hvF, hvE, hvD, valD]
    have bx := lq_big hx0 hx1 (by omega) hal2
    have hbig2 := lq_big2
    have lF : F 1 (4243 : Int).toNat ≤ 130 := hb_len_le (hokF 4243 (by decide) (by decide)) (k := 130) (by
      rw [hb_z_abs (hokF 4243 (by decide) (by decide)), vF]
      omega)
    have lF5 := hlen F hokF 4225 (by decide) (by decide)
    refine wq_bigAdd (by decide) (by decide) (by decide) (by decide) (by decide) (hokF 4243 (by decide) (by decide)) (hokF 4225 (by decide) (by decide)) (by omega) (by omega) (Or.inl rfl) (fun G hXG hWG hvG => ?_)
    have hokG := hb_ok_one hokF hXG hWG
    rw [if_pos rfl] at hvG
    have vbeF : hb_v F 4225 = hb_v C 4225 := by rw [hb_X_v hXF (by decide) (by decide) (by decide) (hokE _ (by decide) (by decide)), hb_X_v hXE (by decide) (by decide) (by decide) (hokD _ (by decide) (by decide)), vbeD]
    have vG : hb_v G 4243 = -(x * hb_v C (65 * (r : Int) + c')) + hb_v C 4225 := by rw [hvG, vF, vbeF]
    have e25 : G 25 g = A 25 g := by
      rw [hXG.1 25 (by decide), hXF.1 25 (by decide), hXE.1 25 (by decide), hXD.1 25 (by decide), hY.1 25 (by decide) (by decide) (by decide), hZ.1 25 (by decide) (by decide) (by decide) (by decide)]
    refine ⟨⟨by omega, by omega⟩, ?_⟩
    have eg : ((g : Int)).toNat = g := by omega
    rw [eg, e25]
    refine wq_bigSet (by decide) (by decide) (by omega) (fun H hXH hWH hvH hlH => ?_)
    have hokH := hb_ok_one hokG hXH hWH
    have valH : hb_v H (65 * (r : Int) + c') = hb_v C (65 * (r : Int) + c') := by
      rw [hb_X_v hXH (by omega) (by omega) (by omega) (hokG _ (by omega) (by omega)), hb_X_v hXG (by omega) (by omega) (by omega) (hokF _ (by omega) (by omega)), hb_X_v hXF (by omega) (by omega) (by omega) (hokE _ (by omega) (by omega)), hb_X_v hXE (by omega) (by omega) (by omega) (hokD _ (by omega) (by omega)), valD]
    have lalH := hlen H hokH (65 * (r : Int) + c') (by omega) (by omega)
    refine wq_bigProduct (by decide) (by decide) (by decide) (by decide) (by omega) (by omega) (by decide) (by omega) hWH (hokH _ (by omega) (by omega)) (by omega) (fun I hXI hWI hvI hzI => ?_)
    have hokI := hb_ok_one hokH hXI hWI
    have vI4 : hb_v I 4244 = A 25 g * hb_v C (65 * (r : Int) + c') := by rw [hvI, hvH, valH]
    have vI3 : hb_v I 4243 = -(x * hb_v C (65 * (r : Int) + c')) + hb_v C 4225 := by
      rw [hb_X_v hXI (by decide) (by decide) (by decide) (hokH _ (by decide) (by decide)), hb_X_v hXH (by decide) (by decide) (by decide) hWG, vG]
    have bc := lq_big (x := A 25 g) hcm.1 (by omega) (show 0 ≤ hb_v C (65 * (r : Int) + c') by omega) hal2
    have bpos : 0 < A 25 g * hb_v C (65 * (r : Int) + c') := Int.mul_pos (by omega) hal
    have z3 : hb_z I 4243 < 16777216 ^ 130 := by
      rw [hb_z_abs (hokI 4243 (by decide) (by decide)), vI3]
      have : (142936511610880 ^ 65 : Int) ≤ 400000000001 * 142936511610880 ^ 65 := by decide +kernel
      omega
    have z4 : hb_z I 4244 < 16777216 ^ 130 := by
      rw [hb_z_abs (hokI 4244 (by decide) (by decide)), vI4]
      omega
    refine wq_settle (by decide) (by decide) hokI (by rw [vI4]; exact bpos) (Int.lt_of_le_of_lt (Int.ediv_le_self _ (hb_z_nonneg (hb_W_P (hokI 4243 (by decide) (by decide))))) z3) (Int.lt_of_le_of_lt (Int.ediv_le_self _ (hb_z_nonneg (hb_W_P (hokI 4244 (by decide) (by decide))))) z4) (fun K hXK hokK _ _ L hL => ?_)
    have hKL : lq_K 51 K L := by rw [hL]; exact lq_K_s _ _ _ _
    have hZ0 : ms_Z A K := ms_Z_trans (ms_Z_Z hZ) (ms_Z_trans (ms_Z_Y hY) (ms_Z_trans (ms_Z_X hXD) (ms_Z_trans (ms_Z_X hXE) (ms_Z_trans (ms_Z_X hXF) (ms_Z_trans (ms_Z_X hXG) (ms_Z_trans (ms_Z_X hXH) (ms_Z_trans (ms_Z_X hXI) (ms_Z_X hXK))))))))
    have back : ∀ k, 2 < k → K k = C k := fun k hk => by
      rw [hXK.1 k hk, hXI.1 k hk, hXH.1 k hk, hXG.1 k hk, hXF.1 k hk, hXE.1 k hk, hXD.1 k hk]
    have k52 : K 52 = B 52 := by rw [back 52 (by decide), hY.1 52 (by decide) (by decide) (by decide)]
    have k51 : K 51 = A 51 := by rw [back 51 (by decide), hY.1 51 (by decide) (by decide) (by decide), hZ.1 51 (by decide) (by decide) (by decide) (by decide)]
    have k53 : K 53 = A 53 := by rw [back 53 (by decide), hY.1 53 (by decide) (by decide) (by decide), hZ.1 53 (by decide) (by decide) (by decide) (by decide)]
    have k56 : K 56 = A 56 := by rw [back 56 (by decide), hY.1 56 (by decide) (by decide) (by decide), hZ.1 56 (by decide) (by decide) (by decide) (by decide)]
    rw [hz1]
    refine hQ 0 L (Or.inl rfl) (ms_Z_trans hZ0 (ms_Z_K (Or.inl rfl) hKL)) (hb_ok_K (by decide) hKL hokK) (fun s => by rw [hKL 52 (by decide), k52]; exact hplB s) (fun s => ?_) (by rw [hKL 53 (by decide), k53]) (by rw [hKL 56 (by decide), k56])
    rw [hL, lq_s_fun]
    unfold hz_u
    split
    · exact Or.inr rfl
    · rw [k51]
      exact hth s
