/-- gains of a line, end by end -/
theorem rv_gain {E no l : Nat} {a b w pv : Nat → Int} (hb : ∀ e, e < E → 0 ≤ b e ∧ b e < (no : Int)) : cS (fun j => (cS (fun e => if (l : Int) = a e ∧ (j : Int) = b e then w e else 0) E) * pv j) no = cS (fun e => if (l : Int) = a e then w e * pv (b e).toNat else 0) E := by
  have h1 : cS (fun j => (cS (fun e => if (l : Int) = a e ∧ (j : Int) = b e then w e else 0) E) * pv j) no = cS (fun j => cS (fun e => (if (l : Int) = a e ∧ (j : Int) = b e then w e else 0) * pv j) E) no := cS_congr (fun j _ => (cS_mulr (fun e => if (l : Int) = a e ∧ (j : Int) = b e then w e else 0) (pv j) E).symm)
  have h2 : cS (fun j => cS (fun e => (if (l : Int) = a e ∧ (j : Int) = b e then w e else 0) * pv j) E) no = cS (fun e => cS (fun j => (if (l : Int) = a e ∧ (j : Int) = b e then w e else 0) * pv j) no) E := cS_comm (fun j e => (if (l : Int) = a e ∧ (j : Int) = b e then w e else 0) * pv j) no E
  rw [h1, h2]
  refine cS_congr (fun e he => ?_)
  have be := hb e he
  have h3 : cS (fun j => (if (l : Int) = a e ∧ (j : Int) = b e then w e else 0) * pv j) no = (if (l : Int) = a e ∧ (((b e).toNat : Nat) : Int) = b e then w e else 0) * pv (b e).toNat := cS_one (f := fun j => (if (l : Int) = a e ∧ (j : Int) = b e then w e else 0) * pv j) (q := (b e).toNat) (by omega) (fun j _ hne => by
    show (if (l : Int) = a e ∧ (j : Int) = b e then w e else 0) * pv j = 0
    rw [if_neg (fun q => hne (by omega)), Int.zero_mul])
  show cS (fun j => (if (l : Int) = a e ∧ (j : Int) = b e then w e else 0) * pv j) no = (if (l : Int) = a e then w e * pv (b e).toNat else 0)
  rw [h3]
  by_cases c : (l : Int) = a e
  · rw [if_pos ⟨c, by omega⟩, if_pos c]
  · rw [if_neg (fun q => c q.1), if_neg c, Int.zero_mul]
/-- whether a plan does a deed -/
noncomputable def rv_t (dp : Nat → Int) (n : Nat) (x : Nat → Int) (d : Int) : Bool := decide (d = -1) || (decide (x (d / 512).toNat = d % 512) && rq_R dp x n (d / 512).toNat)
theorem rv_t_iff (dp : Nat → Int) (n : Nat) (x : Nat → Int) (d : Int) : rv_t dp n x d = true ↔ (d = -1 ∨ (x (d / 512).toNat = d % 512 ∧ rq_R dp x n (d / 512).toNat = true)) := by
  unfold rv_t
  rw [Bool.or_eq_true, Bool.and_eq_true, decide_eq_true_eq, decide_eq_true_eq]
theorem rq_R_congr {n : Nat} {d x y : Nat → Int} (hd : rq_d n d) (e : ∀ s, s < n → x s = y s) : ∀ i, i < n → rq_R d x n i = rq_R d y n i := fun i hi => rq_C_agree (k := n) hd (rq_R_C hd) (rq_R_C hd) e i (by omega) hi
/-- what the ends bring that plan x of player q leads to, times the shares of the other's way: X0 over X1 -/
noncomputable def rv_V (σ : Nat → Nat → Int) (q : Nat) (X0 X1 : Nat → Int) (x : Nat → Int) : Int := cS (fun e => if rv_t (σ (16 + q)) (σ 1 q).toNat x (σ (22 + q) e) = true then sp_we σ e * wy_p (wy_f X0 X1 (σ (12 + (1 - q))) (cw_tau (σ (16 + (1 - q))) 10 (σ (22 + (1 - q)) e))) (σ 1 (1 - q)).toNat else 0) (σ 0 1).toNat
theorem rv_V_congr {σ : Nat → Nat → Int} {q : Nat} {X0 X1 x y : Nat → Int} (hq : q < 2) (sv : sv_R σ) (e : ∀ s, s < (σ 1 q).toNat → x s = y s) : rv_V σ q X0 X1 x = rv_V σ q X0 X1 y := by
  obtain ⟨s1, s2, s3⟩ := sv
  have hd : rq_d (σ 1 q).toNat (σ (16 + q)) := fun s hs => by
    rcases ((s1 q hq).2.2 s (by omega)).2 with c | ⟨c1, c2, -⟩
    · exact Or.inl c
    · exact Or.inr ⟨c1, c2⟩
  refine cS_congr (fun k hk => ?_)
  have v := s3 q hq k (by omega)
  have et : rv_t (σ (16 + q)) (σ 1 q).toNat x (σ (22 + q) k) = rv_t (σ (16 + q)) (σ 1 q).toNat y (σ (22 + q) k) := by
    refine Bool.eq_iff_iff.mpr ?_
    rw [rv_t_iff, rv_t_iff]
    rcases v with v | ⟨v1, v2, -⟩
    · exact ⟨fun _ => Or.inl v, fun _ => Or.inl v⟩
    · rw [e _ (by omega), rq_R_congr hd e _ (by omega)]
  show (if rv_t (σ (16 + q)) (σ 1 q).toNat x (σ (22 + q) k) = true then _ else _) = (if rv_t (σ (16 + q)) (σ 1 q).toNat y (σ (22 + q) k) = true then _ else _)
  rw [et]
theorem wy_p_pos {f : Nat → Int} {n : Nat} (h : ∀ i, i < n → 0 < f i) : 0 < wy_p f n := by
  induction n with
  | zero => exact Int.zero_lt_one
  | succ n ih => exact Int.mul_pos (h n (by omega)) (ih (fun i hi => h i (by omega)))
theorem wy_p_congr {f g : Nat → Int} {n : Nat} (h : ∀ i, i < n → f i = g i) : wy_p f n = wy_p g n := by
  induction n with
  | zero => rfl
  | succ n ih =>
    simp only [wy_p]
    rw [ih (fun i hi => h i (by omega)), h n (by omega)]
theorem wy_p_upd {f : Nat → Int} {n s : Nat} {t : Int} (hs : s < n) : f s * wy_p (lp_U f s t) n = t * wy_p f n := by
  induction n with
  | zero => omega
  | succ n ih =>
    simp only [wy_p]
    by_cases e : s = n
    · subst e
      rw [lp_U_same, wy_p_congr (fun i hi => lp_U_other (show i ≠ s by omega))]
      grind
    · rw [lp_U_other (show n ≠ s by omega)]
      have q := ih (by omega)
      have e1 : f s * (f n * wy_p (lp_U f s t) n) = f n * (f s * wy_p (lp_U f s t) n) := by grind
      rw [e1, q]
      grind
theorem wy_f_upd {X0 X1 mv τ : Nat → Int} {s : Nat} {m : Int} (hm : 0 ≤ m) (i : Nat) : wy_f X0 X1 mv (lp_U τ s m) i = lp_U (wy_f X0 X1 mv τ) s (sp_q (wb (fun q => X1 (4 * s + q)) (mv s).toNat) (X1 (4 * s + m.toNat)) * X0 (4 * s + m.toNat)) i := by
  by_cases e : i = s
  · subst e
    unfold wy_f
    rw [lp_U_same, lp_U_same, if_neg (by omega)]
  · unfold wy_f
    rw [lp_U_other e, lp_U_other e]
/-- one move's chance: shares and chances agree -/
theorem wy_move {P P' B t x0 x1 a b : Int} (hB : 0 < B) (h1 : 1 ≤ x1) (hd : x1 ∣ B) (ht : t = sp_q B x1 * x0) (hP : B * P' = t * P) (hc : x0 * b = a * x1) : b * P' = a * P := by
  obtain ⟨k, hk⟩ := hd
  have eq : sp_q B x1 = k := by
    unfold sp_q
    rw [if_neg (by omega), hk, Int.mul_tdiv_cancel_left _ (by omega)]
  have kp : 0 < k := by
    apply Classical.byContradiction
    intro hn
    have : 0 ≤ x1 * (-k) := Int.mul_nonneg (by omega) (by omega)
    rw [Int.mul_neg] at this
    omega
  rw [eq] at ht
  have e1 : k * (x1 * (b * P')) = k * (x1 * (a * P)) := by
    have q1 : k * (x1 * (b * P')) = b * (x1 * k * P') := by grind
    have q2 : k * (x1 * (a * P)) = (a * x1) * (k * P) := by grind
    rw [q1, ← hk, hP, ht, q2, ← hc]
    grind
  exact Int.eq_of_mul_eq_mul_left (show x1 ≠ 0 by omega) (Int.eq_of_mul_eq_mul_left (show k ≠ 0 by omega) e1)
theorem cw_tau_fuel {n : Nat} {dp : Nat → Int} (hd : rq_d n dp) : ∀ (f f' : Nat) (d : Int), (d = -1 ∨ (0 ≤ d ∧ d / 512 < (n : Int))) → (d = -1 ∨ d / 512 < (f : Int)) → (d = -1 ∨ d / 512 < (f' : Int)) → cw_tau dp f d = cw_tau dp f' d := by
  intro f
  induction f with
  | zero =>
    intro f' d h h1 h2
    have e : d = -1 := by omega
    rw [e, cw_tau_no, cw_tau_no]
  | succ f ih =>
    intro f' d h h1 h2
    by_cases c : d = -1
    · rw [c, cw_tau_no, cw_tau_no]
    · cases f' with
      | zero => omega
      | succ f' =>
        have q := hd (d / 512).toNat (by omega)
        rw [cw_tau_go c, cw_tau_go c]
        congr 1
        refine ih f' _ ?_ ?_ ?_
        · rcases q with q | ⟨q1, q2⟩
          · exact Or.inl q
          · exact Or.inr ⟨q1, by omega⟩
        · rcases q with q | ⟨q1, q2⟩
          · exact Or.inl q
          · exact Or.inr (by omega)
        · rcases q with q | ⟨q1, q2⟩
          · exact Or.inl q
          · exact Or.inr (by omega)
/-- the moves taken, and whether plan x does all of them: along a way, the latest first -/
noncomputable def mt_t (t : Nat) : List (Int × Int) → Nat → Int
  | [] => fun _ => -1
  | q :: l => lp_U (mt_t t l) (q.1 - 10 * (t : Int)).toNat q.2
noncomputable def mt_k (t : Nat) (x : Nat → Int) : List (Int × Int) → Int
  | [] => 1
  | q :: l => if x (q.1 - 10 * (t : Int)).toNat = q.2 then mt_k t x l else 0
theorem mt_t_ch (σ : Nat → Nat → Int) (t : Nat) : ∀ (f : Nat) (d : Int), mt_t t (ch σ t f d) = cw_tau (σ (16 + t)) f d := by
  intro f
  induction f with
  | zero => intro d; rfl
  | succ f ih =>
    intro d
    by_cases c : d = -1
    · rw [c, cw_tau_no]
      simp only [ch]
      rw [if_pos trivial]
      rfl
    · rw [cw_tau_go c]
      simp only [ch]
      rw [if_neg c]
      simp only [mt_t]
      rw [ih _, show 10 * (t : Int) + d / 512 - 10 * (t : Int) = d / 512 by omega]
theorem mt_k_ch {σ : Nat → Nat → Int} {t n : Nat} {x : Nat → Int} {R : Nat → Bool} (hd : rq_d n (σ (16 + t))) (hR : rq_C n (σ (16 + t)) x R) : ∀ (f : Nat) (d : Int), (d = -1 ∨ (0 ≤ d ∧ d / 512 < (n : Int))) → (d = -1 ∨ d / 512 < (f : Int)) → mt_k t x (ch σ t f d) = (if d = -1 ∨ (x (d / 512).toNat = d % 512 ∧ R (d / 512).toNat = true) then 1 else 0) := by
  intro f
  induction f with
  | zero =>
    intro d h h1
    have e : d = -1 := by omega
    rw [if_pos (Or.inl e)]
    rfl
  | succ f ih =>
    intro d h h1
    by_cases c : d = -1
    · rw [if_pos (Or.inl c)]
      simp only [ch]
      rw [if_pos c]
      rfl
    · have q := hd (d / 512).toNat (by omega)
      have k := ih (σ (16 + t) (d / 512).toNat) (by
        rcases q with q | ⟨q1, q2⟩
        · exact Or.inl q
        · exact Or.inr ⟨q1, by omega⟩) (by
        rcases q with q | ⟨q1, q2⟩
        · exact Or.inl q
        · exact Or.inr (by omega))
      have cl := hR (d / 512).toNat (by omega)
      simp only [ch]
      rw [if_neg c]
      simp only [mt_k]
      rw [show 10 * (t : Int) + d / 512 - 10 * (t : Int) = d / 512 by omega, k]
      by_cases e1 : x (d / 512).toNat = d % 512
      · rw [if_pos e1]
        by_cases e2 : R (d / 512).toNat = true
        · rw [if_pos (cl.mp e2), if_pos (Or.inr ⟨e1, e2⟩)]
        · rw [if_neg (fun q => e2 (cl.mpr q)), if_neg (fun q => by
            rcases q with q | q
            · exact c q
            · exact e2 q.2)]
      · rw [if_neg e1, if_neg (fun q => by
          rcases q with q | q
          · exact c q
          · exact e1 q.1)]
theorem wl_mem {B : Nat → Nat → Int} {t f l j : Nat} (hj : j < l) (h : B 22 (f + j) / 10 = (t : Int)) : (B 22 (f + j), B 23 (f + j)) ∈ wl B t f l := by
  induction l with
  | zero => omega
  | succ l ih =>
    simp only [wl]
    by_cases e : j = l
    · subst e
      rw [if_pos h]
      exact List.mem_cons_self
    · have q := ih (by omega)
      split
      · exact List.mem_cons_of_mem _ q
      · exact q
theorem wl_inv {B : Nat → Nat → Int} {t f l : Nat} {q : Int × Int} (h : q ∈ wl B t f l) : ∃ j, j < l ∧ q.1 = B 22 (f + j) ∧ B 22 (f + j) / 10 = (t : Int) := by
  induction l with
  | zero =>
    simp only [wl] at h
    exact absurd h List.not_mem_nil
  | succ l ih =>
    simp only [wl] at h
    split at h
    · next c =>
      rcases List.mem_cons.mp h with e | e
      · exact ⟨l, by omega, by rw [e], c⟩
      · obtain ⟨j, a, b⟩ := ih e
        exact ⟨j, by omega, b⟩
    · obtain ⟨j, a, b⟩ := ih h
      exact ⟨j, by omega, b⟩
theorem mt_t_none {t s : Nat} {l : List (Int × Int)} (h : ∀ q, q ∈ l → (q.1 - 10 * (t : Int)).toNat ≠ s) : mt_t t l s = -1 := by
  induction l with
  | nil => rfl
  | cons q l ih =>
    simp only [mt_t]
    rw [lp_U_other (fun e => h q List.mem_cons_self e.symm)]
    exact ih (fun p hp => h p (List.mem_cons_of_mem _ hp))
theorem ch_mem {σ : Nat → Nat → Int} {t : Nat} (ht : t < 2) (sv : sv_R σ) {q : Int × Int} : ∀ (f : Nat) (d : Int), (d = -1 ∨ (0 ≤ d ∧ d / 512 < σ 1 t ∧ d % 512 < σ (12 + t) (d / 512).toNat)) → q ∈ ch σ t f d → ∃ s : Nat, (s : Int) < σ 1 t ∧ q.1 = 10 * (t : Int) + (s : Int) ∧ 0 ≤ q.2 ∧ q.2 < σ (12 + t) s := by
  intro f
  induction f with
  | zero =>
    intro d _ h
    simp only [ch] at h
    exact absurd h List.not_mem_nil
  | succ f ih =>
    intro d hd h
    simp only [ch] at h
    by_cases c : d = -1
    · rw [if_pos c] at h
      exact absurd h List.not_mem_nil
    · rw [if_neg c] at h
      have hd := hd.resolve_left c
      rcases List.mem_cons.mp h with e | e
      · refine ⟨(d / 512).toNat, by omega, ?_, ?_, ?_⟩
        · rw [e]
          show 10 * (t : Int) + d / 512 = 10 * (t : Int) + (((d / 512).toNat : Nat) : Int)
          omega
        · rw [e]
          exact Int.emod_nonneg d (by decide)
        · rw [e]
          exact hd.2.2
      · refine ih _ ?_ e
        rcases ((sv.1 t ht).2.2 (d / 512).toNat (by omega)).2 with v | ⟨v1, v2, v3⟩
        · exact Or.inl v
        · exact Or.inr ⟨v1, by omega, v3⟩
/-- the model's own way of working an end out: what it comes to -/
theorem rv_model {A σ : Nat → Nat → Int} {g q : Nat} {X0 X1 : Nat → Int} (hq : q < 2) (hY : mg_Y g A σ) (hE : A 14 g = σ 0 1) (hG : mg_G A g) (hD : mg_D A g) (sv : sv_R σ) (hX : ∀ i, i < 40 → 1 ≤ X1 i ∧ X0 i * A 50 (40 * (1 - q) + i) = A 49 (40 * (1 - q) + i) * X1 i) (x : Nat → Int) :
    0 < A 25 g * wy_p (wy_f X0 X1 (σ (12 + (1 - q))) (fun _ => -1)) (σ 1 (1 - q)).toNat ∧ ∃ I : Nat → Nat → Int, mj_I A g q (A 25 g * wy_p (wy_f X0 X1 (σ (12 + (1 - q))) (fun _ => -1)) (σ 1 (1 - q)).toNat) x I ∧ cS (fun e => I e (A 21 (400 * g + e)).toNat) (A 14 g).toNat = rv_V σ q X0 X1 x := by
  obtain ⟨o, ho⟩ : ∃ o : Nat, o = 1 - q := ⟨_, rfl⟩
  have o2 : o < 2 := by omega
  have hV : rv_V σ q X0 X1 x = cS (fun e => if rv_t (σ (16 + q)) (σ 1 q).toNat x (σ (22 + q) e) = true then sp_we σ e * wy_p (wy_f X0 X1 (σ (12 + o)) (cw_tau (σ (16 + o)) 10 (σ (22 + o) e))) (σ 1 o).toNat else 0) (σ 0 1).toNat := by rw [ho]; rfl
  rw [← ho] at hX ⊢
  obtain ⟨sn, sm⟩ := (sv.1 o o2)
  have hdo : rq_d (σ 1 o).toNat (σ (16 + o)) := fun s hs => by
    rcases ((sv.1 o o2).2.2 s (by omega)).2 with c | ⟨c1, c2, -⟩
    · exact Or.inl c
    · exact Or.inr ⟨c1, c2⟩
  have hdq : rq_d (σ 1 q).toNat (σ (16 + q)) := fun s hs => by
    rcases ((sv.1 q hq).2.2 s (by omega)).2 with c | ⟨c1, c2, -⟩
    · exact Or.inl c
    · exact Or.inr ⟨c1, c2⟩
  have hbn : ∀ s : Nat, (s : Int) < σ 1 o → 1 ≤ wb (fun k => X1 (4 * s + k)) (σ (12 + o) s).toNat ∧ ∀ i, i < (σ (12 + o) s).toNat → X1 (4 * s + i) ∣ wb (fun k => X1 (4 * s + k)) (σ (12 + o) s).toNat := fun s hs => by
    have m9 := ((sm.2 s hs)).1
    obtain ⟨a, b, -⟩ := wb_spec (b := fun k => X1 (4 * s + k)) (n := (σ (12 + o) s).toNat) (fun i hi => (hX (4 * s + i) (by omega)).1)
    exact ⟨a, b⟩
  have hcm := hG.2.2.2.2.2.1
  have P0 : 0 < wy_p (wy_f X0 X1 (σ (12 + o)) (fun _ => -1)) (σ 1 o).toNat := wy_p_pos (fun s hs => by
    unfold wy_f
    rw [if_pos rfl]
    have := (hbn s (by omega)).1
    omega)
  refine ⟨Int.mul_pos (by omega) P0, ?_⟩
  obtain ⟨I, hI⟩ : ∃ I : Nat → Nat → Int, I = fun e j => sp_we σ e * wy_p (wy_f X0 X1 (σ (12 + o)) (mt_t o (wl A o (A 20 (400 * g + e)).toNat j))) (σ 1 o).toNat * mt_k q x (wl A q (A 20 (400 * g + e)).toNat j) := ⟨_, rfl⟩
  refine ⟨I, fun e he => ?_, ?_⟩
  · rw [hE] at he
    obtain ⟨y1, f, l, y2, y3, y4, y5, y6⟩ := hY.2.2 e he
    have ef : (A 20 (400 * g + e)).toNat = f := by omega
    have hIe : ∀ j, I e j = sp_we σ e * wy_p (wy_f X0 X1 (σ (12 + o)) (mt_t o (wl A o f j))) (σ 1 o).toNat * mt_k q x (wl A q f j) := fun j => by rw [hI, ← ef]
    rw [ef]
    refine ⟨?_, fun j hj => ?_⟩
    · rw [hIe, y1]
      show sp_we σ e * (A 25 g * wy_p (wy_f X0 X1 (σ (12 + o)) (fun _ => -1)) (σ 1 o).toNat) = A 25 g * (sp_we σ e * wy_p (wy_f X0 X1 (σ (12 + o)) (fun _ => -1)) (σ 1 o).toNat * 1)
      grind
    · rw [y3] at hj
      have hw := (hG.1.2 e (by rw [hE]; exact he)).2.2
      rw [y2, y3] at hw
      obtain ⟨r0, r1, r2, r3⟩ := hw (f + j) (by omega) (by omega)
      rw [hIe, hIe]
      refine ⟨fun notq => ?_, fun isq => ?_⟩
      · have iso : A 22 (f + j) / 10 = (o : Int) := by omega
        have eq1 : wl A q f (j + 1) = wl A q f j := by
          simp only [wl]
          rw [if_neg notq]
        have eo1 : wl A o f (j + 1) = (A 22 (f + j), A 23 (f + j)) :: wl A o f j := by
          simp only [wl]
          rw [if_pos iso]
        rw [eq1, eo1]
        simp only [mt_t]
        have inl := wl_mem (B := A) (t := o) (f := f) (l := l) (j := j) (by omega) iso
        rw [y6 o o2] at inl
        obtain ⟨s, s1, s2, s3, s4⟩ := ch_mem o2 sv 30 _ (sv.2.2 o o2 e he) inl
        have s2 : A 22 (f + j) = 10 * (o : Int) + (s : Int) := s2
        have s3 : 0 ≤ A 23 (f + j) := s3
        have s4 : A 23 (f + j) < σ (12 + o) s := s4
        have es : (A 22 (f + j) - 10 * (o : Int)).toNat = s := by omega
        rw [es]
        have none : mt_t o (wl A o f j) s = -1 := mt_t_none (fun p hp => by
          obtain ⟨j', p1, p2, p3⟩ := wl_inv hp
          have dis := hD.2 e (by rw [hE]; exact he) (f + j') (f + j) (by omega) (by omega) (by rw [y2, y3]; omega)
          have w9 := hw (f + j') (by omega) (by omega)
          rw [p2]
          omega)
        obtain ⟨b1, b2⟩ := hbn s s1
        have hcp : wy_p (wy_f X0 X1 (σ (12 + o)) (lp_U (mt_t o (wl A o f j)) s (A 23 (f + j)))) (σ 1 o).toNat = wy_p (lp_U (wy_f X0 X1 (σ (12 + o)) (mt_t o (wl A o f j))) s (sp_q (wb (fun k => X1 (4 * s + k)) (σ (12 + o) s).toNat) (X1 (4 * s + (A 23 (f + j)).toNat)) * X0 (4 * s + (A 23 (f + j)).toNat))) (σ 1 o).toNat := wy_p_congr (fun i _ => wy_f_upd s3 i)
        have up := wy_p_upd (f := wy_f X0 X1 (σ (12 + o)) (mt_t o (wl A o f j))) (n := (σ 1 o).toNat) (s := s) (t := sp_q (wb (fun k => X1 (4 * s + k)) (σ (12 + o) s).toNat) (X1 (4 * s + (A 23 (f + j)).toNat)) * X0 (4 * s + (A 23 (f + j)).toNat)) (by omega)
        rw [← hcp] at up
        have fs : wy_f X0 X1 (σ (12 + o)) (mt_t o (wl A o f j)) s = wb (fun k => X1 (4 * s + k)) (σ (12 + o) s).toNat := by
          unfold wy_f
          rw [if_pos none]
        rw [fs] at up
        obtain ⟨x1, x2⟩ := hX (4 * s + (A 23 (f + j)).toNat) (by omega)
        have ix : (4 * A 22 (f + j) + A 23 (f + j)).toNat = 40 * o + (4 * s + (A 23 (f + j)).toNat) := by omega
        have mv := wy_move (by omega) x1 (b2 _ (by omega)) rfl up x2
        rw [ix]
        generalize wy_p (wy_f X0 X1 (σ (12 + o)) (lp_U (mt_t o (wl A o f j)) s (A 23 (f + j)))) (σ 1 o).toNat = P' at mv ⊢
        generalize wy_p (wy_f X0 X1 (σ (12 + o)) (mt_t o (wl A o f j))) (σ 1 o).toNat = P at mv ⊢
        have e1 : A 50 (40 * o + (4 * s + (A 23 (f + j)).toNat)) * (sp_we σ e * P' * mt_k q x (wl A q f j)) = (A 50 (40 * o + (4 * s + (A 23 (f + j)).toNat)) * P') * (sp_we σ e * mt_k q x (wl A q f j)) := by grind
        rw [e1, mv]
        grind
      · have noto : ¬ A 22 (f + j) / 10 = (o : Int) := by omega
        have eo1 : wl A o f (j + 1) = wl A o f j := by
          simp only [wl]
          rw [if_neg noto]
        have eq1 : wl A q f (j + 1) = (A 22 (f + j), A 23 (f + j)) :: wl A q f j := by
          simp only [wl]
          rw [if_pos isq]
        rw [eo1, eq1]
        simp only [mt_k]
        split
        · rfl
        · rw [Int.mul_zero]
  · rw [hV, hE]
    refine cS_congr (fun e he => ?_)
    have he : (e : Int) < σ 0 1 := by omega
    obtain ⟨y1, f, l, y2, y3, y4, y5, y6⟩ := hY.2.2 e he
    have vq := sv.2.2 q hq e he
    have vo := sv.2.2 o o2 e he
    have q10 := (sv.1 q hq).1
    show I e (A 21 (400 * g + e)).toNat = (if rv_t (σ (16 + q)) (σ 1 q).toNat x (σ (22 + q) e) = true then sp_we σ e * wy_p (wy_f X0 X1 (σ (12 + o)) (cw_tau (σ (16 + o)) 10 (σ (22 + o) e))) (σ 1 o).toNat else 0)
    rw [hI]
    show sp_we σ e * wy_p (wy_f X0 X1 (σ (12 + o)) (mt_t o (wl A o (A 20 (400 * g + e)).toNat (A 21 (400 * g + e)).toNat))) (σ 1 o).toNat * mt_k q x (wl A q (A 20 (400 * g + e)).toNat (A 21 (400 * g + e)).toNat) = _
    rw [show (A 20 (400 * g + e)).toNat = f by omega, show (A 21 (400 * g + e)).toNat = l by omega, y6 o o2, y6 q hq, mt_t_ch, mt_k_ch hdq (rq_R_C hdq) 30 _ (by omega) (by omega), cw_tau_fuel hdo 30 10 _ (by omega) (by omega) (by omega)]
    by_cases c : rv_t (σ (16 + q)) (σ 1 q).toNat x (σ (22 + q) e) = true
    · rw [if_pos c, if_pos ((rv_t_iff _ _ _ _).mp c), Int.mul_one]
    · rw [if_neg c, if_neg (fun z => c ((rv_t_iff _ _ _ _).mpr z)), Int.mul_zero]
