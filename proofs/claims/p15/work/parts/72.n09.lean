/-- nor is more of the draft's arrays changed than its own part -/
noncomputable def mz_X (d : Nat) (A B : Nat → Nat → Int) : Prop := (∀ i, i ≠ d → B 13 i = A 13 i ∧ B 15 i = A 15 i ∧ B 16 i = A 16 i) ∧ ∀ i, (i < 20 * d ∨ 20 * d + 20 ≤ i) → B 27 i = A 27 i ∧ B 29 i = A 29 i
theorem mz_X_refl (d : Nat) (A : Nat → Nat → Int) : mz_X d A A := ⟨fun _ _ => ⟨rfl, rfl, rfl⟩, fun _ _ => ⟨rfl, rfl⟩⟩
theorem mz_X_trans {d : Nat} {A B C : Nat → Nat → Int} (h1 : mz_X d A B) (h2 : mz_X d B C) : mz_X d A C := ⟨fun i hi => ⟨(h2.1 i hi).1.trans (h1.1 i hi).1, (h2.1 i hi).2.1.trans (h1.1 i hi).2.1, (h2.1 i hi).2.2.trans (h1.1 i hi).2.2⟩, fun i hi => ⟨(h2.2 i hi).1.trans (h1.2 i hi).1, (h2.2 i hi).2.trans (h1.2 i hi).2⟩⟩
theorem mz_X_same {d : Nat} {A B : Nat → Nat → Int} (h13 : B 13 = A 13) (h15 : B 15 = A 15) (h16 : B 16 = A 16) (h27 : B 27 = A 27) (h29 : B 29 = A 29) : mz_X d A B := by
  refine ⟨fun i _ => ?_, fun i _ => ?_⟩
  · rw [h13, h15, h16]; exact ⟨rfl, rfl, rfl⟩
  · rw [h27, h29]; exact ⟨rfl, rfl⟩
/-- a node begins that is not one too many -/
noncomputable def sp_bn (T : sp_T) (σ : Nat → Nat → Int) (k : Nat) (F : List sp_F) (top bot : Int) : sp_S := if T.1 k = 91 then sp_be T σ k F top bot else if T.1 k = 63 then sp_bd T σ k F top bot else sp_bc T σ (if T.1 k = 65 then 0 else 1) k F top bot
/-- the model stands where X stands -/
noncomputable def mr_Q (d n : Nat) (A : Nat → Nat → Int) (X : sp_S) (k : Nat) (z' : Nat → Int) (C : Nat → Nat → Int) : Prop := mz_X d A C ∧ ((z' 35 ≠ 0 ∧ X = sp_x (z' 35) (z' 36)) ∨ (z' 35 = 0 ∧ go_I (ma_t A n) d z' C k ∧ ∃ (k' : Nat) (σ' : Nat → Nat → Int) (F' : List sp_F), X = (0, -1, k', σ', F') ∧ mr_B d C σ' F' ∧ z' 46 = (k' : Int) ∧ z' 45 = (F'.length : Int) ∧ ∀ f, f ∈ F' → f.1 < n))
theorem wv_beginNode_121 {T : sp_T} {B0 σ : Nat → Nat → Int} {F : List sp_F} {z : Nat → Int} {A D : Nat → Nat → Int} {d n o k : Nat} {y1 y3 kd st x : Int} {Q : (Nat → Int) → (Nat → Nat → Int) → Prop} (TB : tk_B T A n) (kin : ∀ j, j < n → T.1 j = 0 ∨ T.1 j = 48 ∨ T.1 j = 1 ∨ cl_w (T.1 j)) (hM : mr_B d B0 σ F) (hoF : o = F.length) (hpF : ∀ f, f ∈ F → f.1 < n) (hX0 : mz_X d A D) (hset : ((D = B0 ∧ x = -1 ∧ (kd = 65 ∨ kd = 66 → ∃ p s : Nat, p < 2 ∧ (if T.1 k = 65 then 0 else 1) = p ∧ st = ((10 * p + s : Nat) : Int) ∧ s < 10 ∧ (s : Int) < σ 1 p ∧ sp_fd (σ (10 + p)) (T.2.2 (k + 1)) (σ 1 p).toNat = (s : Int))) ∨ ((kd = 65 ∨ kd = 66) ∧ x = st ∧ ∃ p s : Nat, p < 2 ∧ (if T.1 k = 65 then 0 else 1) = p ∧ st = ((10 * p + s : Nat) : Int) ∧ s < 10 ∧ σ 1 p = (s : Int) ∧ sp_fd (σ (10 + p)) (T.2.2 (k + 1)) (σ 1 p).toNat = -1 ∧ (∀ k, k ≠ 26 → k ≠ 27 → k ≠ 28 → k ≠ 29 → D k = B0 k) ∧ (∀ i, D 26 i = if i = 2 * d + p then (s : Int) + 1 else B0 26 i) ∧ (∀ i, D 27 i = if i = 20 * d + (10 * p + s) then T.2.2 (k + 1) else B0 27 i) ∧ (∀ i, D 28 i = if i = 20 * d + (10 * p + s) then 0 else B0 28 i) ∧ (∀ i, D 29 i = if i = 20 * d + (10 * p + s) then -1 else B0 29 i)))) (hd : d < 2) (hT : mc_T A n) (hR : mz_R d A D) (hz : z 33 = (d : Int)) (ho : z 45 = (o : Int)) (ho2 : o ≤ 20) (hk : z 46 = (k : Int)) (hf : z 35 = 0) (hC : go_C D d) (hlt : D 14 d < D 13 d) (hG : go_G D d o (D 13 d) x) (hmv : ∀ j, j < o → 0 ≤ D 40 j) (hA : ma_A (ma_t A n) k (300 :: go_l D o)) (hy : 1 ≤ y1 ∧ y1 ≤ y3 ∧ y3 ≤ 10000000000000) (hkd : kd = ma_t A n k)
    (hst : kd = 65 ∨ kd = 66 → ∃ p s : Nat, p < 2 ∧ st = ((10 * p + s : Nat) : Int) ∧ s < 10 ∧ (s : Int) < D 26 (2 * d + p)) (hx : x = -1 ∨ (x = st ∧ (kd = 65 ∨ kd = 66)))
    (hQ : ∀ z' C, go_W d A z z' C → mr_Q d n A (sp_bn T σ k F (sp_q y1 (sp_g y1 y3)) (sp_q y3 (sp_g y1 y3))) k z' C → Q z' C) : wp_beginNode_121 z D y1 y3 (k : Int) kd st Q := by
  obtain ⟨hT', ht'⟩ := go_tok hR hT
  have hn := hT.2.1
  have hf' : hz_rI (z 35) := by rw [hf]; exact ⟨by decide, by decide⟩
  have ed : (z 33).toNat = d := by omega
  obtain ⟨hN, hS, hTT, hP, hH, hZ, hE⟩ := hG
  obtain ⟨⟨c0, c1, c2⟩, c3, c4⟩ := hC
  have hkn : k < n ∧ ma_t A n k = A 7 k := by
    have : ma_t A n k ≠ 0 ∧ ma_t A n k ≠ 2 := by
      rcases ma_node.mp hA with ⟨a, -⟩ | ⟨a, -⟩ | ⟨a | a, -⟩ <;> rw [a] <;> exact ⟨by decide, by decide⟩
    have h1 := mo_tok hT this.1 this.2
    exact ⟨by omega, h1.2⟩
  have kdw : ∀ v, cl_w v → (kd = v ↔ T.1 k = v) := fun v hv => by rw [hkd, hkn.2]; exact tk_c TB kin hkn.1 hv
  have w91 := kdw 91 (by unfold cl_w; omega)
  have w63 := kdw 63 (by unfold cl_w; omega)
  have w65 := kdw 65 (by unfold cl_w; omega)
  have w66 := kdw 66 (by unfold cl_w; omega)
  have p8 : D 8 k = T.2.1 k := by rw [hR.1 8 (by decide) (by decide)]; exact (TB k hkn.1).2.1
  have ekk : ((k : Int)).toNat = k := by omega
  have hkr : k < 4001 ∧ hz_rI kd := by
    have : ma_t A n k ≠ 0 ∧ ma_t A n k ≠ 2 ∧ hz_rI (ma_t A n k) := by
      rcases ma_node.mp hA with ⟨a, -⟩ | ⟨a, -⟩ | ⟨a | a, -⟩ <;> rw [a] <;> exact ⟨by decide, by decide, ⟨by decide, by decide⟩⟩
    have h1 := (mo_tok hT this.1 this.2.1).1
    exact ⟨by omega, by rw [hkd]; exact this.2.2⟩
  obtain ⟨z1', z2', z3', z4', z5'⟩ := sp_dec (a := y1) (b := y3) (by omega)
  have cop : sp_g (sp_q y1 (sp_g y1 y3)) (sp_q y3 (sp_g y1 y3)) = 1 := by rw [sp_g_nat, z5']; rfl
  refine wv_divisor (by omega) (by omega) (fun r er r1 ra rb => ?_)
  have etp : y1.tdiv r = sp_q y1 (sp_g y1 y3) := by rw [← er]; unfold sp_q; rw [if_neg (by omega)]
  have ebt : y3.tdiv r = sp_q y3 (sp_g y1 y3) := by rw [← er]; unfold sp_q; rw [if_neg (by omega)]
  generalize sp_q y1 (sp_g y1 y3) = TP at *
  generalize sp_q y3 (sp_g y1 y3) = BT at *
  have rr := Int.le_of_dvd (by omega) rb
  obtain ⟨⟨m1, m2⟩, m3⟩ := mo_div r1 ra rb (by omega) hy.2.1
  refine ⟨by omega, ⟨by omega, by omega⟩, ⟨by omega, by omega⟩, ⟨by omega, by omega⟩, fun small => ⟨hkr.2, fun inner => ?_, fun leaf z19 hz19 => ?_⟩, fun lg => wv_stop (by decide) (by omega) hf (fun z' h c35 c36 => hQ z' D ⟨fun q a b _ _ _ _ => h.1 q a b, by rw [h.1 45 (by decide) (by decide)]; omega, h.2.2, hR⟩ ⟨hX0, Or.inl ⟨h.2.1, ?_⟩⟩)⟩
  rotate_left 2
  · rw [c35, c36, ekk, p8]
    unfold sp_bn
    have lg' : 1000000000 ≤ BT := by rw [← ebt]; omega
    by_cases c91 : T.1 k = 91
    · rw [if_pos c91]; unfold sp_be; rw [if_pos lg']
    · rw [if_neg c91]
      by_cases c63 : T.1 k = 63
      · rw [if_pos c63]; unfold sp_bd; rw [if_pos lg']
      · rw [if_neg c63]
        have k65 : kd = 65 ∨ kd = 66 := by
          rw [hkd] at w91 w63 ⊢
          rcases ma_node.mp hA with ⟨a, -⟩ | ⟨a, -⟩ | ⟨a, -⟩
          · exact absurd (w91.mp a) c91
          · exact absurd (w63.mp a) c63
          · exact a
        rcases hset with ⟨-, -, hk9⟩ | ⟨-, -, p, s, q1, q2, q3, q4, q5, q6, -⟩
        · obtain ⟨p, s, q1, q2, q3, q4, q5, q6⟩ := hk9 k65
          rw [q2]; unfold sp_bc; rw [if_neg (by rw [q6]; omega), if_pos lg']
        · rw [q2]; unfold sp_bc; rw [if_neg (by omega), if_pos lg']
  · refine ⟨by omega, fun A5 h5 => ⟨by omega, fun A6 h6 => ⟨by omega, fun A7 h7 => ⟨by omega, fun A8 h8 => ⟨by omega, ⟨by omega, by omega⟩, ⟨by omega, by omega⟩, by omega, fun A9 h9 => ⟨by omega, ⟨by omega, by omega⟩, ⟨by omega, by omega⟩, by omega, fun A10 h10 => ⟨hkr.2, fun ch => ⟨by omega, by omega, fun A12 h12 => ?_⟩, fun dr => ⟨by omega, by omega, fun A17 h17 z18 hz18 z1 hz1 => ?_⟩⟩⟩⟩⟩⟩⟩⟩
    all_goals obtain ⟨s0, s37, s38, s39, s40, s41, s42⟩ := go_six ho h5 h6 h7 h8 h9 h10
    · -- a choice
      have k65 : kd = 65 ∨ kd = 66 := by
        rw [hkd] at inner ch ⊢
        rcases ma_node.mp hA with ⟨a, -⟩ | ⟨a, -⟩ | ⟨a, -⟩
        · exact absurd a inner
        · exact absurd a ch
        · exact a
      have hA3 : ma_A (ma_t A n) (k + 3) (300 :: 305 :: 41 :: go_l D o) := by
        rcases ma_node.mp hA with ⟨a, -⟩ | ⟨a, -⟩ | ⟨-, b⟩
        · rw [hkd] at inner
          exact absurd a inner
        · rw [hkd] at ch
          exact absurd a ch
        · exact ((ma_term (by decide)).mp ((ma_term (by decide)).mp b).2).2
      obtain ⟨p, s, p1, p2, p3, p4⟩ := hst k65
      have n91 : ¬ T.1 k = 91 := fun q => inner (w91.mpr q)
      have n63 : ¬ T.1 k = 63 := fun q => ch (w63.mpr q)
      have small' : ¬ 1000000000 ≤ BT := by rw [← ebt]; omega
      have tkd : T.1 k = kd := by
        rcases k65 with q | q
        · rw [q]; exact w65.mp q
        · rw [q]; exact w66.mp q
      have mvb : ∀ j, j < F.length → 0 ≤ B0 40 j ∧ B0 40 j < 512 := fun j hj => by
        have e40 : D 40 = B0 40 := by
          rcases hset with ⟨q, -⟩ | ⟨-, -, p, s, -, -, -, -, -, -, q, -⟩
          · rw [q]
          · exact q 40 (by decide) (by decide) (by decide) (by decide)
        have h1 := hmv j (by omega)
        obtain ⟨-, -, h2, -⟩ := hN j (by omega)
        rw [← e40]
        omega
      have w0 : ∀ q, q ≠ 16 → (q < 37 ∨ 42 < q) → A12 q = D q := fun q a b => by rw [h12, hb_s_other a]; exact s0 q b
      have w1 : ∀ q, q ≠ 16 → A12 q = A10 q := fun q a => by rw [h12, hb_s_other a]
      have R12 : mz_R d D A12 := go_R (fun q a b => w0 q (by omega) (by omega)) (fun q a => w0 q (by omega) (by omega))
      have X12 : mz_X d D A12 := by
        refine ⟨fun q hq => ?_, fun q _ => ?_⟩
        · rw [w0 13 (by decide) (by decide), w0 15 (by decide) (by decide), h12, lq_s_fun]
          unfold hz_u
          rw [ed, if_neg hq, s0 16 (by decide)]
          exact ⟨rfl, rfl, rfl⟩
        · rw [w0 27 (by decide) (by decide), w0 29 (by decide) (by decide)]
          exact ⟨rfl, rfl⟩
      have g38 : ∀ j, A12 38 j = if j = o then kd else D 38 j := fun j => by rw [w1 38 (by decide)]; exact s38 j
      have g39 : ∀ j, A12 39 j = if j = o then st else D 39 j := fun j => by rw [w1 39 (by decide)]; exact s39 j
      have g40 : ∀ j, A12 40 j = if j = o then -1 else D 40 j := fun j => by rw [w1 40 (by decide)]; exact s40 j
      have S12 : go_S A12 d := by
        unfold go_S at *
        rw [w0 26 (by decide) (by decide), w0 27 (by decide) (by decide), w0 28 (by decide) (by decide), w0 29 (by decide) (by decide), w0 30 (by decide) (by decide), w0 31 (by decide) (by decide)]
        exact hS
      have T12 : go_T A12 d o := fun j hj nd => by
        rw [g38, if_neg (by omega)] at nd
        rw [g39, if_neg (by omega), w0 26 (by decide) (by decide)]
        exact hTT j hj nd
      have ec : go_c A12 p o = go_c D p o := go_c_congr p o (fun j hj => by rw [g38, g39, if_neg (by omega), if_neg (by omega)]; exact ⟨rfl, rfl⟩)
      rw [p2]
      have e12o : ola A12 p o = ola D p o := ola_keep (fun j hj => by rw [g38, g39, g40, if_neg (by omega), if_neg (by omega), if_neg (by omega)]; exact ⟨rfl, rfl, rfl⟩)
      have e12p : ∀ S n, pt A12 S n = pt D S n := fun S n => pt_keep (fun i _ => by rw [w0 30 (by decide) (by decide), w0 31 (by decide) (by decide)]; exact ⟨rfl, rfl⟩)
      have e38 : D 38 = B0 38 ∧ D 39 = B0 39 ∧ D 40 = B0 40 := by
        rcases hset with ⟨q, -⟩ | ⟨-, -, p, s, -, -, -, -, -, -, q, -⟩
        · rw [q]; exact ⟨rfl, rfl, rfl⟩
        · exact ⟨q 38 (by decide) (by decide) (by decide) (by decide), q 39 (by decide) (by decide) (by decide) (by decide), q 40 (by decide) (by decide) (by decide) (by decide)⟩
      have oD : ola D p o = ol p F := by
        rw [ola_keep (B := B0) (fun j _ => by rw [e38.1, e38.2.1, e38.2.2]; exact ⟨rfl, rfl, rfl⟩), hoF]
        exact ola_ol hM.2.2.2.2
      refine wv_recall hd hz ho ho2 hf (by omega) p1 p3 (by rw [w0 26 (by decide) (by decide)]; exact p4) S12 T12 (fun j hj => ?_) (fun z14 h14 c35 c36 rp rn z16 hz16 z1 hz1 => ?_) (fun C hfst hC0 hC29 hCo hCi hsc hptC z16 hz16 z1 hz1 => ?_)
      · rw [g38, g40, if_neg (by omega), if_neg (by omega)]
        obtain ⟨-, q2, q3, -⟩ := hN j hj
        refine ⟨by omega, by omega⟩
      · have q1 : z1 35 = z14 35 := by rw [hz1, lp_U_other (by decide), hz16, lp_U_other (by decide)]
        have q36 : z1 36 = z14 36 := by rw [hz1, lp_U_other (by decide), hz16, lp_U_other (by decide)]
        refine hQ z1 A12 ⟨fun q a b c e f g => ?_, ?_, by rw [q1]; exact h14.2.2, mz_R_trans hR R12⟩ ⟨mz_X_trans hX0 X12, Or.inl ⟨by rw [q1]; exact h14.2.1, ?_⟩⟩
        · rw [hz1, lp_U_other c, hz16, lp_U_other e]
          exact h14.1 q a b
        · rw [hz1, lp_U_same, hz16, lp_U_other (by decide), h14.1 45 (by decide) (by decide)]
          omega
        · rw [q1, q36, c35, c36, ekk, w0 8 (by decide) (by decide), p8]
          rw [w0 29 (by decide) (by decide)] at rp rn
          rw [e12o, e12p, oD] at rn
          rcases hset with ⟨q0, -, hk9⟩ | ⟨-, -, p', s', q1', q2, q3, q4, q5, q6, -, -, -, -, q29⟩
          · obtain ⟨p', s', q1', q2, q3, q4, q5, q6⟩ := hk9 k65
            have ep : p' = p := by omega
            have es : s' = s := by omega
            subst ep es
            obtain ⟨-, -, m3, m4, m5, m6⟩ := (hM.2.2.1 p' q1').2 s' q5
            rw [q0, m3] at rn
            unfold sp_bn sp_bc
            rw [if_neg n91, if_neg n63, q2, q6, if_neg (by omega), if_neg small', if_neg (by omega), show ((s' : Int)).toNat = s' by omega, if_neg ?_]
            intro q
            rw [m5, sp_dd_ol] at q
            exact rn (pc_det m6 (pc_ol hM.2.2.2.2 mvb) q)
          · have ep : p' = p := by omega
            have es : s' = s := by omega
            subst ep es
            rw [q29, if_pos rfl] at rp
            omega
      · rw [e12o, oD] at hsc hptC
        rw [ec] at hptC
        rw [ec] at hfst hC29 hCi
        rw [w0 29 (by decide) (by decide)] at hfst hC29
        have v0 : ∀ q, q ≠ 16 → q ≠ 29 → q ≠ 30 → q ≠ 31 → (q < 37 ∨ 42 < q) → C q = D q := fun q a b c e f => by rw [hC0 q b c e]; exact w0 q a f
        have RC : mz_R d D C := go_R (fun q a b => v0 q (by omega) (by omega) (by omega) (by omega) (by omega)) (fun q a => v0 q (by omega) (by omega) (by omega) (by omega) (by omega))
        have q35 : z1 35 = 0 := by rw [hz1, lp_U_other (by decide), hz16, lp_U_other (by decide)]; exact hf
        have q45 : z1 45 = ((o + 1 : Nat) : Int) := by
          rw [hz1, lp_U_same, hz16, lp_U_other (by decide)]
          omega
        have q46 : z1 46 = ((k + 3 : Nat) : Int) := by
          rw [hz1, lp_U_other (by decide), hz16, lp_U_same]
          omega
        have hcr := go_c_range D p o
        have e26 : C 26 = D 26 := v0 26 (by decide) (by decide) (by decide) (by decide) (by decide)
        have hnat : st.toNat = 10 * p + s := by omega
        have SC : go_S C d := by
          intro p' hp'
          obtain ⟨a, b⟩ := hS p' hp'
          rw [e26]
          refine ⟨a, fun s' hs' => ?_⟩
          obtain ⟨b1, b2, b3, b4⟩ := b s' hs'
          rw [v0 27 (by decide) (by decide) (by decide) (by decide) (by decide), v0 28 (by decide) (by decide) (by decide) (by decide) (by decide), hC29]
          by_cases e : p' = p ∧ s' = s
          · rw [e.1, e.2] at b1 b2 ⊢
            rw [if_pos rfl]
            exact ⟨b1, b2, by omega, hCi⟩
          · have hne : 20 * d + (10 * p' + s') ≠ 20 * d + (10 * p + s) := by omega
            rw [if_neg hne]
            refine ⟨b1, b2, b3, fun q hq => ?_⟩
            obtain ⟨x1, x2⟩ := hCo (20 * (20 * d + (10 * p' + s')) + q) (by omega)
            rw [x1, x2, w0 30 (by decide) (by decide), w0 31 (by decide) (by decide)]
            exact b4 q hq
        have G1 : go_G C d (o + 1) (D 13 d) (-1) := by
          refine go_push (B := D) (o := o) (kd := kd) (st := st) (x := x) (fun q _ a b c e f => v0 q a b c e f) (fun j => by rw [hC0 37 (by decide) (by decide) (by decide), w1 37 (by decide)]; exact s37 j) (fun j => by rw [hC0 38 (by decide) (by decide) (by decide)]; exact g38 j) (fun j => by rw [hC0 39 (by decide) (by decide) (by decide)]; exact g39 j) (fun j => by rw [hC0 40 (by decide) (by decide) (by decide)]; exact g40 j) (fun j => by rw [hC0 41 (by decide) (by decide) (by decide), w1 41 (by decide)]; exact s41 j) (fun j => by rw [hC0 42 (by decide) (by decide) (by decide), w1 42 (by decide)]; exact s42 j)
            (by omega) (by omega) (Or.inr k65) ⟨m1, m2, small⟩ SC (fun _ => ⟨p, s, p1, p2, p3, p4⟩) (fun j hj nd => ?_) (fun _ => ?_) (by omega) ⟨hN, hS, hTT, hP, hH, hZ, hE⟩
          · have h1 := hP j hj nd
            rw [hC29]
            split
            · next e =>
              rw [e] at h1
              have h2 := go_c_range D (D 39 j / 10) j
              have h3 := hfst (by omega)
              omega
            · exact h1
          · have e10 : st / 10 = (p : Int) := by omega
            rw [hnat, hC29, if_pos rfl, e10]
        have lF : go_c D p o = ((ol p F).length : Int) := by rw [← oD, ola_len]
        have frm : ∀ σ' : Nat → Nat → Int, mr_F d C σ' F → (s : Int) < σ' 1 p → pt C (20 * d + (10 * p + s)) (σ' (14 + p) s).toNat = ol p F → mr_F d C σ' ((k, T.1 k, p, s, -1, TP, BT, []) :: F) := by
          intro σ' hF1 hs1 hp1
          refine ⟨⟨?_, ?_, ?_, ?_, ?_, cop, Or.inr ⟨n63, p1, ?_, p3, hs1, hp1⟩⟩, hF1⟩
          · rw [← hoF, hC0 37 (by decide) (by decide) (by decide), w1 37 (by decide), s37, if_pos rfl]
          · rw [← hoF, hC0 38 (by decide) (by decide) (by decide), g38, if_pos rfl, tkd]
          · rw [← hoF, hC0 40 (by decide) (by decide) (by decide), g40, if_pos rfl]
          · rw [← hoF, hC0 41 (by decide) (by decide) (by decide), w1 41 (by decide), s41, if_pos rfl, etp]
          · rw [← hoF, hC0 42 (by decide) (by decide) (by decide), w1 42 (by decide), s42, if_pos rfl, ebt]
          · rw [← hoF, hC0 39 (by decide) (by decide) (by decide), g39, if_pos rfl, p2]
        have lowF : ∀ q j, 37 ≤ q → q ≤ 42 → j < F.length → C q j = D q j := fun q j qa qb hj => by
          have s6 : ∀ q, (q = 37 ∨ q = 38 ∨ q = 39 ∨ q = 40 ∨ q = 41 ∨ q = 42) → A10 q j = D q j := fun q hq => by
            rcases hq with rfl | rfl | rfl | rfl | rfl | rfl
            · rw [s37, if_neg (by omega)]
            · rw [s38, if_neg (by omega)]
            · rw [s39, if_neg (by omega)]
            · rw [s40, if_neg (by omega)]
            · rw [s41, if_neg (by omega)]
            · rw [s42, if_neg (by omega)]
          rw [hC0 q (by omega) (by omega) (by omega), w1 q (by omega)]
          exact s6 q (by omega)
        have XC : mz_X d D C := by
          refine ⟨fun q hq => ?_, fun q hq => ?_⟩
          · rw [v0 13 (by decide) (by decide) (by decide) (by decide) (by decide), v0 15 (by decide) (by decide) (by decide) (by decide) (by decide), hC0 16 (by decide) (by decide) (by decide)]
            exact ⟨rfl, rfl, (X12.1 q hq).2.2⟩
          · rw [v0 27 (by decide) (by decide) (by decide) (by decide) (by decide), hC29, if_neg (by omega)]
            exact ⟨rfl, rfl⟩
        have c16 : C 16 d = D 16 d + 1 := by
          rw [hC0 16 (by decide) (by decide) (by decide), h12, lq_s_fun]
          unfold hz_u
          rw [ed, if_pos rfl, s0 16 (by decide)]
        refine hQ z1 C ⟨fun q a b c e f g => ?_, by omega, by rw [q35]; exact ⟨by decide, by decide⟩, mz_R_trans hR RC⟩ ⟨mz_X_trans hX0 XC, Or.inr ⟨q35, ?_, ?_⟩⟩
        · rw [hz1, lp_U_other c, hz16, lp_U_other e]
        rotate_left
        · rcases hset with ⟨q0, -, hk9⟩ | ⟨-, -, p', s', q1', q2, q3, q4, q5, q6, qo, q26, q27, q28, q29⟩
          · obtain ⟨p', s', q1', q2, q3, q4, q5, q6⟩ := hk9 k65
            have ep : p' = p := by omega
            have es : s' = s := by omega
            subst ep es
            obtain ⟨-, -, m3, m4, m5, m6⟩ := (hM.2.2.1 p' q1').2 s' q5
            have nn : 0 ≤ A12 29 (20 * d + (10 * p' + s')) := by rw [w0 29 (by decide) (by decide), q0, m3]; exact m4
            obtain ⟨r1', r2'⟩ := hsc nn
            rw [w0 29 (by decide) (by decide), e12p, q0, m3] at r1'
            refine ⟨k + 3, hz_s σ 0 3 (σ 0 3 + 1), (k, T.1 k, p', s', -1, TP, BT, []) :: F, ?_, ?_, q46, by rw [q45, List.length_cons, hoF], fun f hf => by rcases List.mem_cons.mp hf with e | e; exact (by rw [e]; exact hkn.1); exact hpF f e⟩
            · unfold sp_bn sp_bc
              rw [if_neg n91, if_neg n63, q2, q6, if_neg (by omega), if_neg small', if_neg (by omega), show ((s' : Int)).toNat = s' by omega, if_pos (by rw [m5, r1', sp_dd_ol])]
            · have hq : ∀ q, q ≠ 0 → hz_s σ 0 3 (σ 0 3 + 1) q = σ q := fun q hq => hz_s_a hq
              have up : mr_B d C (hz_s σ 0 3 (σ 0 3 + 1)) F := by
                have v9 : ∀ q, q ≠ 16 → (q < 37 ∨ 42 < q) → C q = B0 q := fun q a b => by rw [r2', w0 q a b, q0]
                obtain ⟨⟨u1, u2, u3, u4⟩, -⟩ := id hM
                refine mr_up hM hq (hz_s_i (by decide)) ⟨?_, ?_, ?_, ?_⟩ (fun q hq' => v9 q (by omega) (by omega)) (fun q j qa qb hj => by rw [lowF q j qa qb hj, q0]) (fun i _ => by rw [v9 43 (by decide) (by decide), v9 44 (by decide) (by decide)]; exact ⟨rfl, rfl⟩)
                · rw [v9 13 (by decide) (by decide), hz_s_i (by decide)]; exact u1
                · rw [v9 14 (by decide) (by decide), hz_s_i (by decide)]; exact u2
                · rw [v9 15 (by decide) (by decide), hz_s_i (by decide)]; exact u3
                · rw [c16, q0, u4]
                  exact (hz_s_same (A := σ) 0 3 (σ 0 3 + 1)).symm
              obtain ⟨x1', x2', x3', x4', x5'⟩ := up
              refine ⟨x1', x2', x3', x4', frm _ x5' (by rw [hq 1 (by decide)]; exact q5) ?_⟩
              rw [hq _ (by omega), r2', e12p, q0]
              exact r1'
          · have ep : p' = p := by omega
            have es : s' = s := by omega
            subst ep es
            have v9 : ∀ q, q ≠ 16 → q ≠ 26 → q ≠ 27 → q ≠ 28 → q ≠ 29 → q ≠ 30 → q ≠ 31 → (q < 37 ∨ 42 < q) → C q = B0 q := fun q a b c e f g h i => by rw [hC0 q f g h, w0 q a i]; exact qo q b c e f
            obtain ⟨N1, N2⟩ := mr_new (C := C) (told := T.2.2 (k + 1)) q1' q5 q4 (fun t i ht hi => by
                have ne : 20 * d + (10 * t + i) ≠ 20 * d + (10 * p' + s') := by
                  intro e
                  have := (hM.2.2.1 t ht).1
                  have e2 : t = p' := by omega
                  rw [e2] at hi
                  omega
                have := (hS t ht).2 i (by
                  rw [q26]
                  split
                  · next e2 =>
                    have e3 : t = p' := by omega
                    rw [e3] at hi
                    omega
                  · rw [hM.2.1 t ht]; exact hi)
                have h9 := this.2.2.1.2
                rw [q29, if_neg ne, ((hM.2.2.1 t ht).2 i hi).2.2.1] at h9
                exact h9) hM mvb ⟨by rw [v9 13 (by decide) (by decide) (by decide) (by decide) (by decide) (by decide) (by decide) (by decide)], by rw [v9 14 (by decide) (by decide) (by decide) (by decide) (by decide) (by decide) (by decide) (by decide)], by rw [v9 15 (by decide) (by decide) (by decide) (by decide) (by decide) (by decide) (by decide) (by decide)]⟩ (by rw [c16, qo 16 (by decide) (by decide) (by decide) (by decide)]) ⟨v9 17 (by decide) (by decide) (by decide) (by decide) (by decide) (by decide) (by decide) (by decide), v9 18 (by decide) (by decide) (by decide) (by decide) (by decide) (by decide) (by decide) (by decide), fun q _ _ => v9 q (by omega) (by omega) (by omega) (by omega) (by omega) (by omega) (by omega) (by omega)⟩ (fun i => by rw [e26]; exact q26 i) (fun i => by rw [v0 27 (by decide) (by decide) (by decide) (by decide) (by decide)]; exact q27 i) (fun i => by rw [v0 28 (by decide) (by decide) (by decide) (by decide) (by decide)]; exact q28 i) (fun i hi => by rw [hC29, if_neg hi, q29, if_neg hi]) (by rw [hC29, if_pos rfl, lF]) (fun i hi => by
                obtain ⟨y1', y2'⟩ := hCo i hi
                rw [y1', y2', w0 30 (by decide) (by decide), w0 31 (by decide) (by decide), qo 30 (by decide) (by decide) (by decide) (by decide), qo 31 (by decide) (by decide) (by decide) (by decide)]
                exact ⟨rfl, rfl⟩) (by rw [lF, show (((ol p' F).length : Int)).toNat = (ol p' F).length by omega] at hptC; exact hptC) (fun q j qa qb hj => by rw [lowF q j qa qb hj, qo q (by omega) (by omega) (by omega) (by omega)]) (fun i _ => by rw [v9 43 (by decide) (by decide) (by decide) (by decide) (by decide) (by decide) (by decide) (by decide), v9 44 (by decide) (by decide) (by decide) (by decide) (by decide) (by decide) (by decide) (by decide)]; exact ⟨rfl, rfl⟩)
            refine ⟨k + 3, hz_s (sp_ns σ p' (T.2.2 (k + 1)) (sp_dd p' F)) 0 3 (σ 0 3 + 1), (k, T.1 k, p', s', -1, TP, BT, []) :: F, ?_, ?_, q46, by rw [q45, List.length_cons, hoF], fun f hf => by rcases List.mem_cons.mp hf with e | e; exact (by rw [e]; exact hkn.1); exact hpF f e⟩
            · unfold sp_bn sp_bc
              rw [if_neg n91, if_neg n63, q2, q6, if_neg (by omega), if_neg small', if_pos rfl, q5, show ((s' : Int)).toNat = s' by omega]
            · obtain ⟨x1', x2', x3', x4', x5'⟩ := N1
              have hq : ∀ q, q ≠ 0 → hz_s (sp_ns σ p' (T.2.2 (k + 1)) (sp_dd p' F)) 0 3 (σ 0 3 + 1) q = sp_ns σ p' (T.2.2 (k + 1)) (sp_dd p' F) q := fun q hq => hz_s_a hq
              refine ⟨x1', x2', x3', x4', frm _ x5' (by rw [hq 1 (by decide), (sp_ns_1 q1' _ _).1, q5]; omega) ?_⟩
              rw [hq _ (by omega), N2, ← lF]
              exact hptC
        · refine go_opened (kd := kd) (k' := k + 3) ⟨⟨c0, c1, c2⟩, c3, c4⟩ (by rw [v0 13 (by decide) (by decide) (by decide) (by decide) (by decide)]) (by rw [v0 14 (by decide) (by decide) (by decide) (by decide) (by decide)]) (by rw [v0 24 (by decide) (by decide) (by decide) (by decide) (by decide)]) (fun j => by rw [hC0 38 (by decide) (by decide) (by decide)]; exact g38 j) (fun j => by rw [hC0 40 (by decide) (by decide) (by decide)]; exact g40 j) G1 ho2 hmv q45 q46 (by omega) ?_
          rw [if_neg ch, if_neg ch]
          exact hA3
    · -- a draw
      have hA2 : ma_A (ma_t A n) (k + 2) (303 :: 304 :: 41 :: go_l D o) := by
        rcases ma_node.mp hA with ⟨a, -⟩ | ⟨-, b⟩ | ⟨a, -⟩
        · rw [hkd] at inner
          exact absurd a inner
        · exact ((ma_term (by decide)).mp b).2
        · rw [hkd] at dr
          omega
      have v0 : ∀ q, q ≠ 15 → (q < 37 ∨ 42 < q) → A17 q = D q := fun q a b => by rw [h17, hb_s_other a]; exact s0 q b
      have w1 : ∀ q, q ≠ 15 → A17 q = A10 q := fun q a => by rw [h17, hb_s_other a]
      have RC : mz_R d D A17 := go_R (fun q a b => v0 q (by omega) (by omega)) (fun q a => v0 q (by omega) (by omega))
      have SC : go_S A17 d := by
        unfold go_S at *
        rw [v0 26 (by decide) (by decide), v0 27 (by decide) (by decide), v0 28 (by decide) (by decide), v0 29 (by decide) (by decide), v0 30 (by decide) (by decide), v0 31 (by decide) (by decide)]
        exact hS
      have q35 : z1 35 = 0 := by rw [hz1, lp_U_other (by decide), hz18, lp_U_other (by decide)]; exact hf
      have q45 : z1 45 = ((o + 1 : Nat) : Int) := by
        rw [hz1, lp_U_same, hz18, lp_U_other (by decide)]
        omega
      have q46 : z1 46 = ((k + 2 : Nat) : Int) := by
        rw [hz1, lp_U_other (by decide), hz18, lp_U_same]
        omega
      have G1 : go_G A17 d (o + 1) (D 13 d) (-1) := by
        refine go_push (B := D) (o := o) (kd := kd) (st := st) (x := x) (fun q a _ _ _ _ f => v0 q a f) (fun j => by rw [w1 37 (by decide)]; exact s37 j) (fun j => by rw [w1 38 (by decide)]; exact s38 j) (fun j => by rw [w1 39 (by decide)]; exact s39 j) (fun j => by rw [w1 40 (by decide)]; exact s40 j) (fun j => by rw [w1 41 (by decide)]; exact s41 j) (fun j => by rw [w1 42 (by decide)]; exact s42 j)
          (by omega) (by omega) (Or.inl dr) ⟨m1, m2, small⟩ SC (fun c => absurd dr c) (fun j hj nd => by rw [v0 29 (by decide) (by decide)]; exact hP j hj nd) (fun c => absurd dr c) (by omega) ⟨hN, hS, hTT, hP, hH, hZ, hE⟩
      have d63 : T.1 k = 63 := w63.mp dr
      have X17 : mz_X d D A17 := by
        refine ⟨fun q hq => ?_, fun q _ => ?_⟩
        · rw [v0 13 (by decide) (by decide), v0 16 (by decide) (by decide), h17, lq_s_fun]
          unfold hz_u
          rw [ed, if_neg hq, s0 15 (by decide)]
          exact ⟨rfl, rfl, rfl⟩
        · rw [v0 27 (by decide) (by decide), v0 29 (by decide) (by decide)]
          exact ⟨rfl, rfl⟩
      have small' : ¬ 1000000000 ≤ BT := by rw [← ebt]; omega
      have q0 : D = B0 := by
        rcases hset with ⟨q0, -⟩ | ⟨q0, -⟩
        · exact q0
        · omega
      refine hQ z1 A17 ⟨fun q a b c e f g => ?_, by omega, by rw [q35]; exact ⟨by decide, by decide⟩, mz_R_trans hR RC⟩ ⟨mz_X_trans hX0 X17, Or.inr ⟨q35, ?_, ?_⟩⟩
      · rw [hz1, lp_U_other c, hz18, lp_U_other e]
      rotate_left
      · refine ⟨k + 2, hz_s σ 0 2 (σ 0 2 + 1), (k, 63, 0, 0, -1, TP, BT, []) :: F, ?_, ?_, q46, by rw [q45, List.length_cons, hoF], fun f hf => by rcases List.mem_cons.mp hf with e | e; exact (by rw [e]; exact hkn.1); exact hpF f e⟩
        · unfold sp_bn sp_bd
          rw [if_neg (by omega), if_pos d63, if_neg small']
        · have hq : ∀ q, q ≠ 0 → hz_s σ 0 2 (σ 0 2 + 1) q = σ q := fun q hq => hz_s_a hq
          have v9 : ∀ q, q ≠ 15 → (q < 37 ∨ 42 < q) → A17 q = B0 q := fun q a b => by rw [v0 q a b, q0]
          have low : ∀ q j, 37 ≤ q → q ≤ 42 → j < F.length → A17 q j = B0 q j := fun q j qa qb hj => by
            have s6 : ∀ q, (q = 37 ∨ q = 38 ∨ q = 39 ∨ q = 40 ∨ q = 41 ∨ q = 42) → A10 q j = D q j := fun q hq => by
              rcases hq with rfl | rfl | rfl | rfl | rfl | rfl
              · rw [s37, if_neg (by omega)]
              · rw [s38, if_neg (by omega)]
              · rw [s39, if_neg (by omega)]
              · rw [s40, if_neg (by omega)]
              · rw [s41, if_neg (by omega)]
              · rw [s42, if_neg (by omega)]
            rw [w1 q (by omega), s6 q (by omega), q0]
          obtain ⟨⟨u1, u2, u3, u4⟩, -⟩ := id hM
          have up : mr_B d A17 (hz_s σ 0 2 (σ 0 2 + 1)) F := by
            refine mr_up hM hq (hz_s_i (by decide)) ⟨?_, ?_, ?_, ?_⟩ (fun q hq' => v9 q (by omega) (by omega)) low (fun i _ => by rw [v9 43 (by decide) (by decide), v9 44 (by decide) (by decide)]; exact ⟨rfl, rfl⟩)
            · rw [v9 13 (by decide) (by decide), hz_s_i (by decide)]; exact u1
            · rw [v9 14 (by decide) (by decide), hz_s_i (by decide)]; exact u2
            · have e15 : A17 15 d = D 15 d + 1 := by
                rw [h17, lq_s_fun]
                unfold hz_u
                rw [ed, if_pos rfl, s0 15 (by decide)]
              rw [e15, q0, u3]
              exact (hz_s_same (A := σ) 0 2 (σ 0 2 + 1)).symm
            · rw [v9 16 (by decide) (by decide), hz_s_i (by decide)]; exact u4
          obtain ⟨x1', x2', x3', x4', x5'⟩ := up
          refine ⟨x1', x2', x3', x4', ⟨?_, ?_, ?_, ?_, ?_, cop, Or.inl ⟨rfl, rfl, True.intro⟩⟩, x5'⟩
          · rw [← hoF, w1 37 (by decide), s37, if_pos rfl]
          · rw [← hoF, w1 38 (by decide), s38, if_pos rfl, dr]
          · rw [← hoF, w1 40 (by decide), s40, if_pos rfl]
          · rw [← hoF, w1 41 (by decide), s41, if_pos rfl, etp]
          · rw [← hoF, w1 42 (by decide), s42, if_pos rfl, ebt]
      · refine go_opened (kd := kd) (k' := k + 2) ⟨⟨c0, c1, c2⟩, c3, c4⟩ (by rw [v0 13 (by decide) (by decide)]) (by rw [v0 14 (by decide) (by decide)]) (by rw [v0 24 (by decide) (by decide)]) (fun j => by rw [w1 38 (by decide)]; exact s38 j) (fun j => by rw [w1 40 (by decide)]; exact s40 j) G1 ho2 hmv q45 q46 (by omega) ?_
        rw [if_pos dr, if_pos dr]
        exact hA2
  · -- an end
    have hx1 : x = -1 := by omega
    have hA1 : ma_A (ma_t D n) (k + 1) (301 :: 93 :: go_l D o) := by
      rw [ht']
      rcases ma_node.mp hA with ⟨-, b⟩ | ⟨a, -⟩ | ⟨a, -⟩
      · exact b
      · omega
      · omega
    have g46 : z19 46 = ((k + 1 : Nat) : Int) := by
      rw [hz19, lp_U_same]
      omega
    have gq : ∀ q, q ≠ 46 → z19 q = z q := fun q a => by rw [hz19, lp_U_other a]
    have d91 : T.1 k = 91 := w91.mp leaf
    have small' : ¬ 1000000000 ≤ BT := by rw [← ebt]; omega
    have q0 : D = B0 := by
      rcases hset with ⟨q0, -⟩ | ⟨q0, -⟩
      · exact q0
      · omega
    have TBD : tk_B T D n := fun j hj => by rw [hR.1 7 (by decide) (by decide), hR.1 8 (by decide) (by decide), hR.1 9 (by decide) (by decide)]; exact TB j hj
    refine wv_fraction TBD kin hT' (Or.inl rfl) g46 (by rw [gq 35 (by decide)]; exact hf) hA1 (fun z' hq h46 hkk hacc h47 h48 _ v47 v48 => ?_) (fun z' hq h35 h35' c35 c36 why => ⟨h35', fun _ => ?_, fun c => absurd c h35⟩)
    · have g35 : z' 35 = 0 := by rw [hq 35 (by decide) (by decide) (by decide), gq 35 (by decide)]; exact hf
      have g45 : z' 45 = (o : Int) := by rw [hq 45 (by decide) (by decide) (by decide), gq 45 (by decide)]; exact ho
      have g33 : z' 33 = (d : Int) := by rw [hq 33 (by decide) (by decide) (by decide), gq 33 (by decide)]; exact hz
      refine ⟨by rw [g35]; exact ⟨by decide, by decide⟩, fun c => absurd g35 c, fun _ => ⟨by omega, ⟨by omega, by omega⟩, ⟨by omega, by omega⟩, by omega, ⟨by omega, by omega⟩, ⟨by omega, by omega⟩, ?_⟩⟩
      obtain ⟨e0, he0⟩ : ∃ e0 : Nat, D 14 d = (e0 : Int) := ⟨(D 14 d).toNat, by omega⟩
      obtain ⟨f, hf0⟩ : ∃ f : Nat, D 24 d = (f : Int) := ⟨(D 24 d).toNat, by omega⟩
      have hgo := go_a_le D o
      have he0' : σ 0 1 = (e0 : Int) := by rw [← he0, q0]; exact hM.1.2.1.symm
      refine wv_end (e0 := e0) (f := f) hd g33 g45 ho2 he0 (by omega) hf0 (by omega) (fun j hj => by obtain ⟨-, q2, -⟩ := hN j hj; omega) (by omega) (by omega) h47 h48 (fun C t b et9 eb9 hC0 h14 h24 ht hb h17 h18 h20 h21 hout hin z25 hz25 => ?_)
      have G1 := go_end ho2 he0 hf0 hC0 h14 h24 ht hb h17 h18 h20 h21 hout hin hmv (by rw [← hx1]; exact ⟨hN, hS, hTT, hP, hH, hZ, hE⟩ : go_G D d o (D 13 d) (-1))
      have e13 : C 13 = D 13 := hC0 13 (by decide) (by decide) (by decide) (by decide) (by decide) (by decide) (by decide) (by decide)
      have e38 : C 38 = D 38 := hC0 38 (by decide) (by decide) (by decide) (by decide) (by decide) (by decide) (by decide) (by decide)
      have e40 : C 40 = D 40 := hC0 40 (by decide) (by decide) (by decide) (by decide) (by decide) (by decide) (by decide) (by decide)
      have el : go_l C o = go_l D o := go_l_congr o (fun j _ => by rw [e38])
      have q35 : z25 35 = 0 := by rw [hz25, lp_U_other (by decide)]; exact g35
      have q45 : z25 45 = (o : Int) := by rw [hz25, lp_U_other (by decide)]; exact g45
      have q46 : z25 46 = ((sp_fe T (k + 1) + 1 : Nat) : Int) := by
        rw [hz25, lp_U_same]
        omega
      have RC : mz_R d D C := by
        refine ⟨fun q a b => hC0 q (by omega) (by omega) (by omega) (by omega) (by omega) (by omega) (by omega) (by omega), fun i hi => ?_, fun i _ _ => by rw [hC0 26 (by decide) (by decide) (by decide) (by decide) (by decide) (by decide) (by decide) (by decide)], fun i _ => by rw [hC0 28 (by decide) (by decide) (by decide) (by decide) (by decide) (by decide) (by decide) (by decide)], fun i hi => ?_, fun i hi => hout i (by omega)⟩
        · rw [h14, if_neg hi, hC0 25 (by decide) (by decide) (by decide) (by decide) (by decide) (by decide) (by decide) (by decide)]
          exact ⟨rfl, rfl⟩
        · rw [hC0 19 (by decide) (by decide) (by decide) (by decide) (by decide) (by decide) (by decide) (by decide), h20, h21, if_neg (by omega), if_neg (by omega)]
          exact ⟨rfl, rfl, rfl⟩
      have acc := ((ma_term (by decide)).mp hacc).2
      rw [ht', ← el] at acc
      refine hQ z25 C ⟨fun q a b c e f' g => ?_, by omega, by rw [q35]; exact ⟨by decide, by decide⟩, mz_R_trans hR RC⟩ ⟨mz_X_trans hX0 (mz_X_same (hC0 13 (by decide) (by decide) (by decide) (by decide) (by decide) (by decide) (by decide) (by decide)) (hC0 15 (by decide) (by decide) (by decide) (by decide) (by decide) (by decide) (by decide) (by decide)) (hC0 16 (by decide) (by decide) (by decide) (by decide) (by decide) (by decide) (by decide) (by decide)) (hC0 27 (by decide) (by decide) (by decide) (by decide) (by decide) (by decide) (by decide) (by decide)) (hC0 29 (by decide) (by decide) (by decide) (by decide) (by decide) (by decide) (by decide) (by decide))), Or.inr ⟨q35, ⟨o, sp_fe T (k + 1) + 1, q45, q46, by omega, by omega, ?_, by rw [e13]; exact G1, fun j hj => by rw [e40]; exact hmv j (by omega), ?_⟩, sp_fe T (k + 1) + 1, sp_en σ TP BT (sp_rt T (k + 1)) (sp_rb T (k + 1)) (sp_dd 0 F) (sp_dd 1 F), F, ?_, ?_, q46, by rw [q45, hoF], hpF⟩⟩
      · rw [hz25, lp_U_other e, hq q e f' g]
        exact gq q e
      · refine ⟨?_, ?_⟩
        · rw [h14, if_pos rfl, e13]
          omega
        · rw [h24, h14, if_pos rfl]
          omega
      · cases o with
        | zero => exact Or.inl ⟨rfl, acc⟩
        | succ j => exact Or.inr ⟨j, rfl, Or.inl ⟨by rw [e40]; exact hmv j (by omega), acc⟩⟩
      · unfold sp_bn sp_be
        rw [if_pos d91, if_neg small', if_neg (by omega)]
      · obtain ⟨x1', x2'⟩ := sp_en_eq (top := TP) (bot := BT) (ft := sp_ft T (k + 1)) (fb := sp_fb T (k + 1)) z4' (by omega) cop
        rw [etp, ebt, v47, v48] at et9 eb9
        exact mr_end (B := B0) (f0 := f) hM (fun j hj => by rw [← q0]; have h1 := hmv j (by omega); obtain ⟨-, -, h2, -⟩ := hN j (by omega); omega) (by omega) (by rw [← q0]; exact hf0) (by rw [← q0, ← hoF]; exact h24) (by rw [← q0]; exact h20) (by rw [← q0, ← hoF]; exact h21) (by rw [← q0, ← hoF]; exact hout) (by rw [← q0, ← hoF]; exact hin) he0' (by rw [← q0]; exact hC0) (by rw [← q0]; exact h14) (by rw [← q0]; exact h17) (by rw [← q0]; exact h18) (by rw [et9]; exact x1'.symm) (by rw [eb9]; exact x2'.symm)
    · refine hQ z' D ⟨fun q a b c e f g => ?_, ?_, h35', hR⟩ ⟨hX0, Or.inl ⟨h35, ?_⟩⟩
      · rw [hq q a b e f g]
        exact gq q e
      · rw [hq 45 (by decide) (by decide) (by decide) (by decide) (by decide), gq 45 (by decide)]
        omega
      · rw [c35, c36]
        unfold sp_bn sp_be
        rw [if_pos d91, if_neg small', if_pos (by omega)]
theorem wv_beginNode_92 {T : sp_T} {σ : Nat → Nat → Int} {F : List sp_F} {z : Nat → Int} {A B : Nat → Nat → Int} {d n o k p : Nat} {y1 y3 kd : Int} {Q : (Nat → Int) → (Nat → Nat → Int) → Prop} (TB : tk_B T A n) (kin : ∀ j, j < n → T.1 j = 0 ∨ T.1 j = 48 ∨ T.1 j = 1 ∨ cl_w (T.1 j)) (hM : mr_B d B σ F) (hoF : o = F.length) (hpF : ∀ f, f ∈ F → f.1 < n) (hX0 : mz_X d A B) (hkp : (if T.1 k = 65 then 0 else 1) = p) (hd : d < 2) (hT : mc_T A n) (hR : mz_R d A B) (hz : z 33 = (d : Int)) (ho : z 45 = (o : Int)) (ho2 : o ≤ 20) (hk : z 46 = (k : Int)) (hf : z 35 = 0) (hC : go_C B d) (hlt : B 14 d < B 13 d) (hG : go_G B d o (B 13 d) (-1)) (hmv : ∀ j, j < o → 0 ≤ B 40 j) (hA : ma_A (ma_t A n) k (300 :: go_l B o)) (hy : 1 ≤ y1 ∧ y1 ≤ y3 ∧ y3 ≤ 10000000000000) (hkd : kd = ma_t A n k) (h65 : kd = 65 ∨ kd = 66) (hp : p < 2)
    (hQ : ∀ z' C, go_W d A z z' C → mr_Q d n A (sp_bn T σ k F (sp_q y1 (sp_g y1 y3)) (sp_q y3 (sp_g y1 y3))) k z' C → Q z' C) : wp_beginNode_92 z B y1 y3 (k : Int) kd (p : Int) Q := by
  obtain ⟨hT', ht'⟩ := go_tok hR hT
  have hn := hT.2.1
  have hf' : hz_rI (z 35) := by rw [hf]; exact ⟨by decide, by decide⟩
  have hA1 : ma_A (ma_t A n) (k + 1) (1 :: 40 :: 300 :: 305 :: 41 :: go_l B o) := by
    rcases ma_node.mp hA with ⟨a, -⟩ | ⟨a, -⟩ | ⟨-, b⟩
    · omega
    · omega
    · exact b
  have t1 := ((ma_term (by decide)).mp hA1).1
  obtain ⟨l1, -⟩ := mo_tok hT (by rw [t1]; decide) (by rw [t1]; decide)
  have told := (hT'.2.2.1 (k + 1) (by omega)).2.1
  have ek : (z 46 + 1).toNat = k + 1 := by omega
  have ekk : ((k : Int)).toNat = k := by omega
  refine ⟨⟨by omega, by omega⟩, ?_⟩
  rw [ek]
  have hS := hG.2.1
  have h10 := (hS p hp).1
  have nu := tk_n TB kin (show k + 1 < n by omega) (by rw [← t1]; exact (if_pos (show k + 1 < n by omega)).symm)
  have e9 : B 9 (k + 1) = T.2.2 (k + 1) := by rw [hR.1 9 (by decide) (by decide)]; exact nu.2
  have p8 : B 8 k = T.2.1 k := by rw [hR.1 8 (by decide) (by decide)]; exact (TB k (by omega)).2.1
  have kdw : ∀ v, cl_w v → (kd = v ↔ T.1 k = v) := fun v hv => by rw [hkd, show ma_t A n k = A 7 k from if_pos (show k < n by omega)]; exact tk_c TB kin (by omega) hv
  have n91 : ¬ T.1 k = 91 := fun q => by have := (kdw 91 (by unfold cl_w; omega)).mpr q; omega
  have n63 : ¬ T.1 k = 63 := fun q => by have := (kdw 63 (by unfold cl_w; omega)).mpr q; omega
  have fdc : sp_fd (fun i => B 27 (20 * d + (10 * p + i))) (B 9 (k + 1)) (B 26 (2 * d + p)).toNat = sp_fd (σ (10 + p)) (T.2.2 (k + 1)) (σ 1 p).toNat := by
    rw [hM.2.1 p hp, e9]
    exact sp_fd_congr (fun i hi => ((hM.2.2.1 p hp).2 i (by omega)).1)
  have e26 := hM.2.1 p hp
  have stop : sp_fd (σ (10 + p)) (T.2.2 (k + 1)) (σ 1 p).toNat = -1 → 10 ≤ σ 1 p → wp_stop z B 2 (k : Int) (fun z' => Q z' B) := fun f1 f2 => wv_stop (by decide) (by omega) hf (fun z' h c35 c36 => hQ z' B ⟨fun q a b _ _ _ _ => h.1 q a b, by rw [h.1 45 (by decide) (by decide)]; omega, h.2.2, hR⟩ ⟨hX0, Or.inl ⟨h.2.1, by
    rw [c35, c36, ekk, p8]
    unfold sp_bn sp_bc
    rw [if_neg n91, if_neg n63, hkp, if_pos ⟨f1, f2⟩]⟩⟩)
  refine wv_findSet hd hz hp told hS (fun s hs fds => ⟨⟨by omega, by omega⟩, fun _ => ?_, fun c => by omega⟩) (fun fds fd10 => ⟨⟨by decide, by decide⟩, fun c => by omega, fun _ => stop (by rw [← fdc]; exact fds) (by omega)⟩) (fun s C fds hs hs10 hC0 h26 h27 h28 h29 => ⟨⟨by omega, by omega⟩, fun _ => ?_, fun c => by omega⟩)
  · exact wv_beginNode_121 (B0 := B) (σ := σ) (F := F) TB kin hM hoF hpF hX0 (Or.inl ⟨rfl, rfl, fun _ => ⟨p, s, hp, hkp, rfl, by omega, by omega, by rw [← fdc]; exact fds⟩⟩) hd hT hR hz ho ho2 hk hf hC hlt hG hmv hA hy hkd (fun _ => ⟨p, s, hp, rfl, by omega, hs⟩) (Or.inl rfl) hQ
  · have e : ∀ q, (q < 26 ∨ 29 < q) → C q = B q := fun q h => hC0 q (by omega) (by omega) (by omega) (by omega)
    have RC : mz_R d B C := by
      refine ⟨fun q a b => e q (by omega), fun i _ => ?_, fun i a b => ?_, fun i a => ?_, fun i _ => ?_, fun i _ => ?_⟩
      · rw [e 14 (by decide), e 25 (by decide)]
        exact ⟨rfl, rfl⟩
      · rw [h26, if_neg (by omega)]
      · rw [h28, if_neg (by omega)]
      · rw [e 19 (by decide), e 20 (by decide), e 21 (by decide)]
        exact ⟨rfl, rfl, rfl⟩
      · rw [e 22 (by decide), e 23 (by decide)]
        exact ⟨rfl, rfl⟩
    have XC : mz_X d B C := by
      refine ⟨fun q _ => ?_, fun q hq => ?_⟩
      · rw [e 13 (by decide), e 15 (by decide), e 16 (by decide)]
        exact ⟨rfl, rfl, rfl⟩
      · rw [h27, h29, if_neg (by omega), if_neg (by omega)]
        exact ⟨rfl, rfl⟩
    have G1 := go_new hp hs hs10 told hC0 h26 h27 h28 h29 hG
    have el : go_l C o = go_l B o := go_l_congr o (fun j _ => by rw [e 38 (by decide)])
    refine wv_beginNode_121 (B0 := B) (σ := σ) (F := F) (x := ((10 * p + s : Nat) : Int)) TB kin hM hoF hpF (mz_X_trans hX0 XC) (Or.inr ⟨h65, rfl, p, s, hp, hkp, rfl, hs10, by omega, by rw [← fdc]; exact fds, hC0, h26, by rw [← e9]; exact h27, h28, h29⟩) hd hT (mz_R_trans hR RC) hz ho ho2 hk hf ?_ ?_ ?_ (fun j hj => by rw [e 40 (by decide)]; exact hmv j hj) (by rw [el]; exact hA) hy hkd (fun _ => ⟨p, s, hp, rfl, hs10, by rw [h26, if_pos rfl]; omega⟩) (Or.inr ⟨rfl, h65⟩) hQ
    · unfold go_C at *
      rw [e 13 (by decide), e 14 (by decide), e 24 (by decide)]
      exact hC
    · rw [e 13 (by decide), e 14 (by decide)]
      exact hlt
    · rw [e 13 (by decide)]
      exact G1
theorem wv_beginNode {T : sp_T} {σ : Nat → Nat → Int} {F : List sp_F} {z : Nat → Int} {A B : Nat → Nat → Int} {d n o k : Nat} {y1 y3 : Int} {Q : (Nat → Int) → (Nat → Nat → Int) → Prop} (TB : tk_B T A n) (kin : ∀ j, j < n → T.1 j = 0 ∨ T.1 j = 48 ∨ T.1 j = 1 ∨ cl_w (T.1 j)) (hM : mr_B d B σ F) (hoF : o = F.length) (hpF : ∀ f, f ∈ F → f.1 < n) (hX0 : mz_X d A B) (hd : d < 2) (hT : mc_T A n) (hR : mz_R d A B) (hz : z 33 = (d : Int)) (ho : z 45 = (o : Int)) (ho2 : o ≤ 21) (hk : z 46 = (k : Int)) (hf : z 35 = 0) (hC : go_C B d) (hG : go_G B d o (B 13 d + 1) (-1)) (hmv : ∀ j, j < o → 0 ≤ B 40 j) (hA : ma_A (ma_t A n) k (300 :: go_l B o)) (hy : 1 ≤ y1 ∧ y1 ≤ y3 ∧ y3 ≤ 10000000000000)
    (hQ : ∀ z' C, go_W d A z z' C → mr_Q d n A (sp_bg T σ k F (sp_q y1 (sp_g y1 y3)) (sp_q y3 (sp_g y1 y3))) k z' C → Q z' C) : wp_beginNode z B y1 y3 Q := by
  have hn := hT.2.1
  have hf' : hz_rI (z 35) := by rw [hf]; exact ⟨by decide, by decide⟩
  have ed : (z 33).toNat = d := by omega
  have ek : (z 46).toNat = k := by omega
  obtain ⟨⟨c0, c1, c2⟩, c3, c4⟩ := hC
  have htk : ma_t A n k ≠ 0 ∧ ma_t A n k ≠ 2 ∧ hz_rI (ma_t A n k) := by
    rcases ma_node.mp hA with ⟨a, -⟩ | ⟨a, -⟩ | ⟨a | a, -⟩ <;> rw [a] <;> exact ⟨by decide, by decide, ⟨by decide, by decide⟩⟩
  obtain ⟨l1, t1⟩ := mo_tok hT htk.1 htk.2.1
  intro x5 hx5
  refine ⟨by omega, fun x6 hx6 => ⟨by omega, by omega, fun D hD => ?_⟩⟩
  have ex5 : x5 = (k : Int) := by omega
  have ex6 : x6 = ma_t A n k := by rw [hx6, ek, t1, hR.1 7 (by decide) (by decide)]
  rw [ed] at hD
  have e : ∀ q, q ≠ 13 → D q = B q := fun q h => by rw [hD, hb_s_other h]
  have e13 : D 13 d = B 13 d + 1 := by
    rw [hD, lq_s_fun]
    unfold hz_u
    rw [ed, if_pos rfl]
  have RD : mz_R d B D := go_R (fun q a b => e q (by omega)) (fun q a => e q (by omega))
  have R1 := mz_R_trans hR RD
  have G1 : go_G D d o (D 13 d) (-1) := by
    rw [e13]
    exact go_keep (fun q a _ _ => e q a) hG
  have el : go_l D o = go_l B o := go_l_congr o (fun j _ => by rw [e 38 (by decide)])
  have hA' : ma_A (ma_t A n) k (300 :: go_l D o) := by rw [el]; exact hA
  have hmv' : ∀ j, j < o → 0 ≤ D 40 j := fun j hj => by rw [e 40 (by decide)]; exact hmv j hj
  have r6 : hz_rI x6 := by rw [ex6]; exact htk.2.2
  rw [ed, ex5, e13]
  have s00 : B 13 d = σ 0 0 := hM.1.1
  have XD : mz_X d B D := by
    refine ⟨fun q hq => ?_, fun q _ => ?_⟩
    · rw [e 15 (by decide), e 16 (by decide), hD, lq_s_fun]
      unfold hz_u
      rw [ed, if_neg hq]
      exact ⟨rfl, rfl, rfl⟩
    · rw [e 27 (by decide), e 29 (by decide)]
      exact ⟨rfl, rfl⟩
  have ekk : ((k : Int)).toNat = k := by omega
  have p8 : D 8 k = T.2.1 k := by rw [R1.1 8 (by decide) (by decide)]; exact (TB k (by omega)).2.1
  have stop : (400 ≤ σ 0 0 ∨ 20 < F.length) → wp_beginNode_54 z D (k : Int) Q := fun why => wv_stop (by decide) (by omega) hf (fun z' h c35 c36 => hQ z' D ⟨fun q a b _ _ _ _ => h.1 q a b, by rw [h.1 45 (by decide) (by decide)]; omega, h.2.2, R1⟩ ⟨mz_X_trans hX0 XD, Or.inl ⟨h.2.1, by
    rw [c35, c36, ekk, p8]
    unfold sp_bg
    by_cases w : 400 ≤ σ 0 0
    · rw [if_pos w]
    · rw [if_neg w, if_pos (by omega)]⟩⟩)
  refine ⟨by omega, ⟨by omega, by omega⟩, fun q => stop (Or.inl (by omega)), fun c4' => ⟨⟨by omega, by omega⟩, fun c20 => ?_, fun q => stop (Or.inr (by omega))⟩⟩
  have bgn : sp_bg T σ k F (sp_q y1 (sp_g y1 y3)) (sp_q y3 (sp_g y1 y3)) = sp_bn T (hz_s σ 0 0 (σ 0 0 + 1)) k F (sp_q y1 (sp_g y1 y3)) (sp_q y3 (sp_g y1 y3)) := by
    unfold sp_bg sp_bn
    rw [if_neg (by omega), if_neg (by omega)]
  rw [bgn] at hQ
  have MD : mr_B d D (hz_s σ 0 0 (σ 0 0 + 1)) F := by
    obtain ⟨⟨u1, u2, u3, u4⟩, -⟩ := id hM
    refine mr_up hM (fun q hq => hz_s_a hq) (hz_s_i (by decide)) ⟨?_, ?_, ?_, ?_⟩ (fun q hq' => e q (by omega)) (fun q j qa qb hj => by rw [e q (by omega)]) (fun i _ => by rw [e 43 (by decide), e 44 (by decide)]; exact ⟨rfl, rfl⟩)
    · rw [e13, u1]
      exact (hz_s_same (A := σ) 0 0 (σ 0 0 + 1)).symm
    · rw [e 14 (by decide), hz_s_i (by decide)]; exact u2
    · rw [e 15 (by decide), hz_s_i (by decide)]; exact u3
    · rw [e 16 (by decide), hz_s_i (by decide)]; exact u4
  have w65 : x6 = 65 ↔ T.1 k = 65 := by rw [ex6, t1]; exact tk_c TB kin (by omega) (by unfold cl_w; omega)
  have hCD : go_C D d := by
    unfold go_C
    rw [e13, e 14 (by decide), e 24 (by decide)]
    exact ⟨by omega, c3, c4⟩
  have hlt : D 14 d < D 13 d := by
    rw [e13, e 14 (by decide)]
    omega
  have ch : x6 = 65 ∨ x6 = 66 → wp_beginNode_79 z D y1 y3 (k : Int) x6 Q := by
    intro h65
    refine ⟨r6, fun q65 => ?_, fun q65 => ?_⟩
    · exact wv_beginNode_92 (p := 1) TB kin MD hoF hpF (mz_X_trans hX0 XD) (if_neg (fun q => q65 (w65.mpr q))) hd hT R1 hz ho (by omega) hk hf hCD hlt G1 hmv' hA' hy ex6 h65 (by decide) hQ
    · exact wv_beginNode_92 (p := 0) TB kin MD hoF hpF (mz_X_trans hX0 XD) (if_pos (w65.mp q65)) hd hT R1 hz ho (by omega) hk hf hCD hlt G1 hmv' hA' hy ex6 h65 (by decide) hQ
  exact ⟨r6, fun h => ch (Or.inl h), fun h5 => ⟨r6, fun h6 => wv_beginNode_121 (B0 := D) TB kin MD hoF hpF (mz_X_trans hX0 XD) (Or.inl ⟨rfl, rfl, fun h => by omega⟩) hd hT R1 hz ho (by omega) hk hf hCD hlt G1 hmv' hA' hy ex6 (fun h => by omega) (Or.inl rfl) hQ, fun h => ch (Or.inr h)⟩⟩
