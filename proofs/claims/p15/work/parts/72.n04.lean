theorem wv_stop {z : Nat → Int} {A : Nat → Nat → Int} {c w : Int} {Q : (Nat → Int) → Prop} (hc : 1 ≤ c ∧ c ≤ 6) (hw : 0 ≤ w ∧ w < 4001) (hf : z 35 = 0) (hQ : ∀ z', mo_stop z z' → z' 35 = c → z' 36 = A 8 w.toNat → Q z') : wp_stop z A c w Q := by
  refine ⟨by rw [hf]; exact ⟨by decide, by decide⟩, fun ne => absurd hf ne, fun e z2 hz2 => ⟨hw, fun z3 hz3 => ?_⟩⟩
  have e35 : z3 35 = c := by rw [hz3, lp_U_other (by decide), hz2, lp_U_same]
  have e36 : z3 36 = A 8 w.toNat := by rw [hz3, lp_U_same]
  exact hQ z3 ⟨fun q a b => by rw [hz3, lp_U_other b, hz2, lp_U_other a], by rw [e35]; omega, by rw [e35]; exact ⟨by omega, by omega⟩⟩ e35 e36
theorem wv_divisor {z : Nat → Int} {A : Nat → Nat → Int} {a b : Int} {Q : Int → Prop} (ha : -4000000000000000000 ≤ a ∧ a ≤ 4000000000000000000) (hb : 1 ≤ b ∧ b ≤ 4000000000000000000) (hQ : ∀ r, r = sp_g a b → 1 ≤ r → r ∣ a → r ∣ b → Q r) : wp_divisor z A a b Q := by
  have loop : ∀ x : Int, 0 ≤ x → x ≤ 4000000000000000000 → (x = a ∨ x = -a) → wp_divisor_17 z A x b Q := by
    intro x0 x00 x01 hx0
    intro P hP
    have key : ∀ (k : Nat) (x y : Int), y.toNat = k → 0 ≤ x → x ≤ 4000000000000000000 → 0 ≤ y → y ≤ 4000000000000000000 → (0 < y ∨ 0 < x) → Int.gcd x y = Int.gcd a b → P x y := by
      intro k
      induction k using Nat.strongRecOn with
      | ind k ih =>
        intro x y hk x0 x1 y0 y1 hp hr
        refine hP x y ⟨⟨by omega, by omega⟩, fun c => ?_, fun c => ⟨by omega, ⟨by omega, by omega⟩, ⟨by omega, by omega⟩, fun r hrr => ?_⟩⟩
        · have hy : y = 0 := by omega
          have e : x = sp_g a b := by
            unfold sp_g
            rw [← hr, hy]
            exact (sp_g0 x0).symm
          exact hQ x e (by omega) (by rw [e]; exact sp_g_l a b) (by rw [e]; exact sp_g_r a b)
        · rw [Int.tmod_eq_emod_of_nonneg x0] at hrr
          have m0 : 0 ≤ x % y := Int.emod_nonneg _ (by omega)
          have m1 : x % y < y := Int.emod_lt_of_pos _ (by omega)
          refine ih r.toNat (by omega) y r rfl y0 y1 (by omega) (by omega) (Or.inr (by omega)) ?_
          rw [hrr, sp_gst x0 y0]
          exact hr
    exact key _ x0 b rfl x00 x01 (by omega) (by omega) (Or.inl (by omega)) (sp_gabs hx0 (Or.inl rfl))
  exact ⟨⟨by omega, by omega⟩, fun c => loop a c (by omega) (Or.inl rfl), fun c => loop (-a) (by omega) (by omega) (Or.inr rfl)⟩
/-- what the model's words say, word by word -/
theorem tk_c {T : sp_T} {B : Nat → Nat → Int} {n k : Nat} {v : Int} (hB : tk_B T B n) (kin : ∀ j, j < n → T.1 j = 0 ∨ T.1 j = 48 ∨ T.1 j = 1 ∨ cl_w (T.1 j)) (hk : k < n) (hv : cl_w v) : B 7 k = v ↔ T.1 k = v := by
  rw [(hB k hk).1]
  exact ⟨fun q => (tk_m_inv (kin k hk) q).2.2 hv, fun q => tk_m_eq q hv⟩
theorem tk_n {T : sp_T} {B : Nat → Nat → Int} {n k : Nat} (hB : tk_B T B n) (kin : ∀ j, j < n → T.1 j = 0 ∨ T.1 j = 48 ∨ T.1 j = 1 ∨ cl_w (T.1 j)) (hk : k < n) (h : B 7 k = 1) : T.1 k = 48 ∧ B 9 k = T.2.2 k := by
  obtain ⟨h1, h2, h3⟩ := hB k hk
  rw [h1] at h
  have q := (tk_m_inv (kin k hk) h).2.1 rfl
  exact ⟨q, h3 q⟩
theorem wv_fraction {T : sp_T} {z : Nat → Int} {A : Nat → Nat → Int} {n k : Nat} {dr : Int} {st : List Int} {Q : (Nat → Int) → Prop} (TB : tk_B T A n) (kin : ∀ j, j < n → T.1 j = 0 ∨ T.1 j = 48 ∨ T.1 j = 1 ∨ cl_w (T.1 j)) (hT : mc_T A n) (hdr : dr = 0 ∨ dr = 1) (hk : z 46 = (k : Int)) (hf : z 35 = 0) (hA : ma_A (ma_t A n) k (301 :: st))
    (hQ1 : ∀ z', (∀ q, q ≠ 46 → q ≠ 47 → q ≠ 48 → z' q = z q) → z' 46 = (sp_fe T k : Int) → k < sp_fe T k → ma_A (ma_t A n) (sp_fe T k) st → (-9999 ≤ z' 47 ∧ z' 47 ≤ 9999) → (1 ≤ z' 48 ∧ z' 48 ≤ 9999) → (dr = 1 → 1 ≤ z' 47 ∧ z' 47 ≤ z' 48) → z' 47 = sp_ft T k → z' 48 = sp_fb T k → Q z')
    (hQ0 : ∀ z', (∀ q, q ≠ 35 → q ≠ 36 → q ≠ 46 → q ≠ 47 → q ≠ 48 → z' q = z q) → z' 35 ≠ 0 → hz_rI (z' 35) → z' 35 = 3 → z' 36 = T.2.1 k → (sp_fb T k = 0 ∨ (dr = 1 ∧ (sp_ft T k ≤ 0 ∨ sp_fb T k < sp_ft T k))) → Q z') : wp_fraction z A dr Q := by
  have hK := hT.2.2.1
  have hn := hT.2.1
  rw [ma_frac] at hA
  -- behind the sign
  have rest : ∀ (k1 : Nat) (sg : Int) (x2 : Int), k ≤ k1 → k1 = sp_fs T k → k < n → x2 = (k : Int) → (0 ≤ x2 ∧ x2 < 4001) → (sg = 0 ∧ ¬ T.1 k = 45 ∧ k1 = k ∨ sg = 1 ∧ T.1 k = 45 ∧ k1 = k + 1) → ma_A (ma_t A n) k1 (1 :: 302 :: st) → wp_fraction_43 z A dr x2 sg (k1 : Int) Q := by
    intro k1 sg x2 hkk hks hkn ex2 hx2 hsg h1
    obtain ⟨t1, h2⟩ := (ma_term (by decide)).mp h1
    obtain ⟨l1, e1⟩ := mo_tok hT (by rw [t1]; decide) (by rw [t1]; decide)
    rw [ma_line] at h2
    have tk1 : ma_t A n (k1 + 1) = A 7 (k1 + 1) := if_pos (by omega)
    have ek1 : ((k1 : Int)).toNat = k1 := by omega
    have n1 := (hK k1 (by omega)).2.1
    have nu := tk_n TB kin (show k1 < n by omega) (by rw [← e1]; exact t1)
    have body : ∀ (z0 : Nat → Int) (tp : Int), (∀ q, q ≠ 46 → z0 q = z q) → z0 46 = (k1 : Int) → (-9999 ≤ tp ∧ tp ≤ 9999) → tp = sp_ft T k → wp_fraction_75 z0 A dr x2 tp Q := by
      intro z0 tp hz0 h46 htp etp z7 hz7 z8 hz8 z9 hz9
      have g46 : z9 46 = ((k1 + 1 : Nat) : Int) := by
        rw [hz9, lp_U_same, hz8, lp_U_other (by decide), hz7, lp_U_other (by decide), h46]
        omega
      have g47 : z9 47 = tp := by rw [hz9, lp_U_other (by decide), hz8, lp_U_other (by decide), hz7, lp_U_same]
      have g48 : z9 48 = 1 := by rw [hz9, lp_U_other (by decide), hz8, lp_U_same]
      have gq : ∀ q, q ≠ 46 → q ≠ 47 → q ≠ 48 → z9 q = z q := fun q a b c => by rw [hz9, lp_U_other a, hz8, lp_U_other c, hz7, lp_U_other b]; exact hz0 q a
      have e9 : (z9 46).toNat = k1 + 1 := by omega
      have hkr := (hK (k1 + 1) (by omega)).1
      -- what a fraction must not be
      have last : ∀ (zz : Nat → Int), (∀ q, q ≠ 46 → q ≠ 47 → q ≠ 48 → zz q = z q) → zz 46 = (sp_fe T k : Int) → k < sp_fe T k → zz 47 = tp → (0 ≤ zz 48 ∧ zz 48 ≤ 9999) → zz 48 = sp_fb T k → ma_A (ma_t A n) (sp_fe T k) st → wp_fraction_133 zz A dr x2 Q := by
        intro zz hzz h46' hlt h47' h48' ebt hacc
        have z35 : zz 35 = 0 := by rw [hzz 35 (by decide) (by decide) (by decide)]; exact hf
        have bad : (sp_fb T k = 0 ∨ (dr = 1 ∧ (sp_ft T k ≤ 0 ∨ sp_fb T k < sp_ft T k))) → wp_fraction_167 zz A x2 Q := fun why => wv_stop (by decide) hx2 z35 (fun z' hz' c35 c36 => hQ0 z' (fun q a b c d e => by rw [hz'.1 q a b]; exact hzz q c d e) hz'.2.1 hz'.2.2 c35 (by rw [c36, ex2, show ((k : Int)).toNat = k by omega, (TB k hkn).2.1]) why)
        refine ⟨⟨by omega, by omega⟩, fun q => bad (Or.inl (by omega)), fun nz => ⟨⟨by omega, by omega⟩, fun d0 => hQ1 zz hzz h46' hlt hacc (by omega) (by omega) (fun c => by omega) (by rw [h47', etp]) ebt, fun d1 => ⟨⟨by omega, by omega⟩, fun q => bad (Or.inr ⟨by omega, Or.inl (by omega)⟩), fun pos => ⟨⟨by omega, by omega⟩, ⟨by omega, by omega⟩, fun le => hQ1 zz hzz h46' hlt hacc (by omega) (by omega) (fun _ => ⟨by omega, le⟩) (by rw [h47', etp]) ebt, fun q => bad (Or.inr ⟨by omega, Or.inr (by omega)⟩)⟩⟩⟩⟩
      refine ⟨⟨by omega, by omega⟩, by rw [e9]; exact ⟨by omega, by omega⟩, fun ns => ?_, fun sl => ?_⟩
      · rw [e9] at ns
        have ns' : ¬ T.1 (sp_fs T k + 1) = 47 := fun q => ns (by rw [hks]; exact (tk_c TB kin (by omega) (by unfold cl_w; omega)).mpr q)
        have ee : sp_fe T k = k1 + 1 := by unfold sp_fe; rw [if_neg ns', hks]
        have eb : sp_fb T k = 1 := by unfold sp_fb; rw [if_neg ns']
        rw [← tk1] at ns
        rw [if_neg ns] at h2
        exact last z9 gq (by rw [ee]; exact g46) (by omega) g47 (by omega) (by rw [g48, eb]) (by rw [ee]; exact h2)
      · rw [e9] at sl
        have sl' : T.1 (sp_fs T k + 1) = 47 := by rw [← hks]; exact (tk_c TB kin (by omega) (by unfold cl_w; omega)).mp sl
        rw [← tk1] at sl
        rw [if_pos sl] at h2
        obtain ⟨t3, h4⟩ := (ma_term (by decide)).mp h2
        obtain ⟨l3, e3⟩ := mo_tok hT (by rw [t3]; decide) (by rw [t3]; decide)
        have nu3 := tk_n TB kin (show k1 + 1 + 1 < n by omega) (by rw [← e3]; exact t3)
        have ee : sp_fe T k = k1 + 1 + 1 + 1 := by unfold sp_fe; rw [if_pos sl', hks]
        have eb : sp_fb T k = T.2.2 (k1 + 1 + 1) := by unfold sp_fb; rw [if_pos sl', hks]
        have e10 : (z9 46 + 1).toNat = k1 + 1 + 1 := by omega
        have n3 := (hK (k1 + 1 + 1) (by omega)).2.1
        refine ⟨⟨by omega, by omega⟩, by rw [e10]; exact ⟨by omega, by omega⟩, fun z11 hz11 z12 hz12 => ?_⟩
        rw [e10] at hz11
        refine last z12 (fun q a b c => by rw [hz12, lp_U_other a, hz11, lp_U_other c]; exact gq q a b c) ?_ (by omega) ?_ ?_ ?_ (by rw [ee]; exact h4)
        · rw [ee, hz12, lp_U_same, hz11, lp_U_other (by decide)]
          omega
        · rw [hz12, lp_U_other (by decide), hz11, lp_U_other (by decide)]
          exact g47
        · rw [hz12, lp_U_other (by decide), hz11, lp_U_same]
          exact n3
        · rw [hz12, lp_U_other (by decide), hz11, lp_U_same, eb]
          exact nu3.2
    intro z13 hz13
    have g46 : z13 46 = (k1 : Int) := by rw [hz13, lp_U_same]
    have gq : ∀ q, q ≠ 46 → z13 q = z q := fun q a => by rw [hz13, lp_U_other a]
    have et : (z13 46).toNat = k1 := by omega
    refine ⟨by rcases hsg with ⟨h, -⟩ | ⟨h, -⟩ <;> rw [h] <;> exact ⟨by decide, by decide⟩, fun q => ⟨⟨by omega, by omega⟩, by rw [et]; exact ⟨by omega, by omega⟩, ?_⟩, fun q => ⟨⟨by omega, by omega⟩, by rw [et]; exact ⟨by omega, by omega⟩, ?_⟩⟩
    · rw [et]
      refine body z13 _ gq g46 (by omega) ?_
      rcases hsg with ⟨h, h', h''⟩ | ⟨h, h', h''⟩
      · unfold sp_ft; rw [if_neg h', nu.2, h'']
      · omega
    · rw [et]
      refine body z13 _ gq g46 (by omega) ?_
      rcases hsg with ⟨h, h', h''⟩ | ⟨h, h', h''⟩
      · omega
      · unfold sp_ft; rw [if_pos h', nu.2, h'']
  intro x2 hx2
  have ek : (z 46).toNat = k := by omega
  by_cases c : ma_t A n k = 45
  · obtain ⟨l, e⟩ := mo_tok hT (by rw [c]; decide) (by rw [c]; decide)
    have c' : T.1 k = 45 := (tk_c TB kin (by omega) (by unfold cl_w; omega)).mp (by rw [← e]; exact c)
    have es : sp_fs T k = k + 1 := by unfold sp_fs; rw [if_pos c']
    rw [if_pos c] at hA
    refine ⟨⟨by omega, by omega⟩, by rw [ek, ← e, c]; exact ⟨by decide, by decide⟩, fun ne => by rw [ek, ← e] at ne; exact absurd c ne, fun _ => ⟨⟨by decide, by decide⟩, fun f => absurd f (by decide), fun _ => ?_⟩⟩
    have e1 : z 46 + 1 = ((k + 1 : Nat) : Int) := by omega
    rw [e1]
    exact rest (k + 1) 1 x2 (by omega) es.symm (by omega) (by omega) (by omega) (Or.inr ⟨rfl, c', rfl⟩) hA
  · rw [if_neg c] at hA
    obtain ⟨t1, -⟩ := (ma_term (by decide)).mp hA
    obtain ⟨l, e⟩ := mo_tok hT (by rw [t1]; decide) (by rw [t1]; decide)
    have c' : ¬ T.1 k = 45 := fun q => c (by rw [e]; exact (tk_c TB kin (by omega) (by unfold cl_w; omega)).mpr q)
    have es : sp_fs T k = k := by unfold sp_fs; rw [if_neg c']
    refine ⟨⟨by omega, by omega⟩, by rw [ek, ← e, t1]; exact ⟨by decide, by decide⟩, fun _ => ⟨⟨by decide, by decide⟩, fun _ => ?_, fun f => absurd rfl f⟩, fun eq => by rw [ek, ← e] at eq; exact absurd eq c⟩
    rw [hk]
    exact rest k 0 x2 (by omega) es.symm (by omega) (by omega) (by omega) (Or.inl ⟨rfl, c', rfl⟩) hA
