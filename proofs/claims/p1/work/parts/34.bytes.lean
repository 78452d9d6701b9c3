/-- byte k of a long -/
def hm_b (c : Int64) (k : Nat) : Nat := c.toBitVec.toNat / 2 ^ (8 * k) % 256
/-- the character that the class takes -/
def hm_T (c : Int64) (i : Int32) : Int32 := ((c.toUInt64 >>> (((8 : Int32) * i).toInt64.toUInt64 &&& Int64.toUInt64 63)).toInt64).toInt32 &&& 255
/-- .. and the one that the model takes -/
def hm_R (c : Int64) (i : Int32) : Int64 := (c >>> (((8 : Int32) * i).toInt64 &&& 63)) &&& 255
theorem hm_b_lt (c : Int64) (k : Nat) : hm_b c k < 256 := Nat.mod_lt _ (by decide)
theorem hm_sh : ∀ k, k < 8 → (((8 : Int32) * nI k).toInt64.toUInt64 &&& Int64.toUInt64 63).toNat % 64 = 8 * k := by decide +kernel
theorem hm_sh2 : ∀ k, k < 8 → ((((8 : Int32) * nI k).toInt64 &&& 63).toBitVec.smod 64).toNat = 8 * k := by decide +kernel
theorem hm_T_b (c : Int64) {k : Nat} (hk : k < 8) : hm_T c (nI k) = nI (hm_b c k) := by
  unfold hm_T
  rw [pk_and _ 8 (by decide)]
  have e : (c.toUInt64 >>> (((8 : Int32) * nI k).toInt64.toUInt64 &&& Int64.toUInt64 63)).toInt64.toBitVec.toNat = c.toBitVec.toNat / 2 ^ (8 * k) := by
    show (c.toUInt64 >>> (((8 : Int32) * nI k).toInt64.toUInt64 &&& Int64.toUInt64 63)).toNat = _
    rw [UInt64.toNat_shiftRight, Nat.shiftRight_eq_div_pow, hm_sh k hk]
    rfl
  generalize (c.toUInt64 >>> (((8 : Int32) * nI k).toInt64.toUInt64 &&& Int64.toUInt64 63)).toInt64 = X at e ⊢
  have e2 : X.toInt32.toBitVec.toNat = X.toBitVec.toNat % 2 ^ 32 := by
    rw [Int64.toBitVec_toInt32, BitVec.signExtend_eq_setWidth_of_le _ (by decide), BitVec.toNat_setWidth]
  rw [e2, e]
  unfold hm_b
  rw [Nat.mod_mod_of_dvd _ (by decide : 2 ^ 8 ∣ 2 ^ 32)]
theorem hm_R_b (c : Int64) {k : Nat} (hk : k < 8) : hm_R c (nI k) = lN (hm_b c k) := by
  unfold hm_R
  apply Int64.toBitVec_inj.mp
  apply BitVec.eq_of_toNat_eq
  rw [Int64.toBitVec_and, BitVec.toNat_and]
  have e255 : (255 : Int64).toBitVec.toNat = 2 ^ 8 - 1 := by decide
  rw [e255, Nat.and_two_pow_sub_one_eq_mod]
  have e : (c >>> (((8 : Int32) * nI k).toInt64 &&& 63)).toBitVec = c.toBitVec.sshiftRight (8 * k) := by
    rw [← hm_sh2 k hk]
    rfl
  rw [e]
  have e3 : (lN (hm_b c k)).toBitVec.toNat = hm_b c k := by
    show (BitVec.ofNat 64 _).toNat = _
    rw [BitVec.toNat_ofNat]
    have := hm_b_lt c k
    omega
  rw [e3]
  unfold hm_b
  rw [show (256 : Nat) = 2 ^ 8 from rfl]
  apply Nat.eq_of_testBit_eq
  intro i
  rw [Nat.testBit_mod_two_pow, Nat.testBit_mod_two_pow]
  by_cases h : i < 8
  · rw [Nat.testBit_div_two_pow, BitVec.testBit_toNat, BitVec.testBit_toNat, BitVec.getLsbD_sshiftRight]
    have h1 : 8 * k + i < 64 := by omega
    have h2 : ¬ 64 ≤ i := by omega
    simp [h, h2, Nat.add_comm]
    intro h9
    omega
  · simp [h]
/-- the characters are all right -/
def hm_ok (c : Int64) (n : Int32) : Prop := ∃ j : Nat, 1 ≤ j ∧ j ≤ 8 ∧ n = nI j ∧ ∀ k, k < j → 32 ≤ hm_b c k ∧ hm_b c k ≤ 126
noncomputable def hm_app (c : Int64) (n : Int32) : Int32 := @ite _ (hm_ok c n) (Classical.propDecidable _) 1 0
noncomputable def hm_len (c : Int64) (n : Int32) : Int32 := @ite _ (hm_ok c n) (Classical.propDecidable _) n 0
noncomputable def hm_typ (c : Int64) (n : Int32) : Int32 := @ite _ (hm_ok c n) (Classical.propDecidable _) n (-1)
theorem hm_nI {n : Int32} (h1 : ¬ n < 1) (h2 : ¬ 8 < n) : ∃ j : Nat, 1 ≤ j ∧ j ≤ 8 ∧ n = nI j := by
  have a1 : ¬ n < 0 := fun h => h1 (by
    have : n.toInt < 0 := Int32.lt_iff_toInt_lt.mp h
    exact Int32.lt_iff_toInt_lt.mpr (by have : (1 : Int32).toInt = 1 := by decide
                                        omega))
  obtain ⟨j, hj, rfl⟩ := nI_of a1
  have b1 : ¬ nI j < nI 1 := h1
  have b2 : ¬ nI 8 < nI j := h2
  rw [nI_ltI hj (by decide)] at b1
  rw [nI_ltI (by decide) hj] at b2
  exact ⟨j, by omega, by omega, rfl⟩
theorem hm_nok1 {c : Int64} {n : Int32} (h : n < 1) : ¬ hm_ok c n := by
  rintro ⟨j, h1, h8, rfl, -⟩
  have b : nI j < nI 1 := h
  rw [nI_ltI (by omega) (by decide)] at b
  omega
theorem hm_nok8 {c : Int64} {n : Int32} (h : 8 < n) : ¬ hm_ok c n := by
  rintro ⟨j, h1, h8, rfl, -⟩
  have b : nI 8 < nI j := h
  rw [nI_ltI (by decide) (by omega)] at b
  omega
theorem hm_nokb {c : Int64} {j k : Nat} (hj : j < 2 ^ 31) (hk : k < j) (h : hm_b c k < 32 ∨ 126 < hm_b c k) : ¬ hm_ok c (nI j) := by
  rintro ⟨j', h1, h8, e, ha⟩
  have e2 : j = j' := (nI_eq hj (by omega)).mp e
  have := ha k (by omega)
  omega
theorem hm_T_lt {c : Int64} {k : Nat} (hk : k < 8) : hm_T c (nI k) < 32 ↔ hm_b c k < 32 := by
  rw [hm_T_b c hk]
  exact nI_ltI (by have := hm_b_lt c k; omega) (by decide)
theorem hm_T_le {c : Int64} {k : Nat} (hk : k < 8) : hm_T c (nI k) ≤ 126 ↔ hm_b c k ≤ 126 := by
  rw [hm_T_b c hk]
  exact nI_leI (by have := hm_b_lt c k; omega) (by decide)
theorem hm_cmp_lt (x y : Int64) : lg_cmp x y < 0 ↔ x < y := by
  unfold lg_cmp
  by_cases h1 : x > y
  · rw [if_pos h1]
    exact ⟨fun h => absurd h (by decide), fun h => absurd (Int64.lt_trans h h1) (Int64.lt_irrefl)⟩
  · rw [if_neg h1]
    by_cases h2 : x = y
    · rw [if_pos h2]
      exact ⟨fun h => absurd h (by decide), fun h => absurd (h2 ▸ h) (Int64.lt_irrefl)⟩
    · rw [if_neg h2]
      exact ⟨fun _ => Int64.lt_of_le_of_ne (Int64.not_lt.mp h1) h2, fun _ => by decide⟩
theorem hm_cmp_gt (x y : Int64) : 0 < lg_cmp x y ↔ y < x := by
  unfold lg_cmp
  by_cases h1 : x > y
  · rw [if_pos h1]
    exact ⟨fun _ => h1, fun _ => by decide⟩
  · rw [if_neg h1]
    by_cases h2 : x = y
    · rw [if_pos h2]
      exact ⟨fun h => absurd h (by decide), fun h => absurd h h1⟩
    · rw [if_neg h2]
      exact ⟨fun h => absurd h (by decide), fun h => absurd h h1⟩
theorem hm_R_lt {c : Int64} {k : Nat} (hk : k < 8) : lg_cmp (hm_R c (nI k)) 32 < 0 ↔ hm_b c k < 32 := by
  rw [hm_cmp_lt, hm_R_b c hk]
  exact lN_lt (by have := hm_b_lt c k; omega) (by decide)
theorem hm_R_gt {c : Int64} {k : Nat} (hk : k < 8) : 0 < lg_cmp (hm_R c (nI k)) 126 ↔ 126 < hm_b c k := by
  rw [hm_cmp_gt, hm_R_b c hk]
  exact lN_lt (by decide) (by have := hm_b_lt c k; omega)
theorem hm_dec (x : Int32) : x + Int32.ofInt (-1) = x - 1 := by
  rw [show Int32.ofInt (-1) = -1 from by decide, Int32.sub_eq_add_neg]
