-- 15.cworld
/-- what lies at an address: an object of a class, an array of numbers, an array of objects -/
noncomputable abbrev cw_K : Type := Nat ⊕ (Nat × Nat) ⊕ (Nat × Nat × (Nat → Nat))
noncomputable def cw_v0 (z : Nat → Int) (r : Nat → Nat) : List Value := [.ref (r 0), .int (hz_i (z 1)), .int (hz_i (z 2))]
noncomputable def cw_v1 (z : Nat → Int) (r : Nat → Nat) : List Value := [.ref (r 0), .int (hz_i (z 1)), .int (hz_i (z 2))]
noncomputable def cw_v2 (z : Nat → Int) (r : Nat → Nat) : List Value := [.ref (r 0), .ref (r 1), .long (hz_l (z 2)), .ref (r 3)]
noncomputable def cw_v3 (z : Nat → Int) (r : Nat → Nat) : List Value := [.ref (r 0), .ref (r 1)]
noncomputable def cw_v4 (z : Nat → Int) (r : Nat → Nat) : List Value := [.ref (r 0), .ref (r 1), .int (hz_i (z 2)), .ref (r 3), .ref (r 4), .ref (r 5)]
noncomputable def cw_v5 (z : Nat → Int) (r : Nat → Nat) : List Value := [.int (hz_i (z 0)), .int (hz_i (z 1)), .ref (r 2), .ref (r 3), .ref (r 4), .int (hz_i (z 5)), .int (hz_i (z 6)), .long (hz_l (z 7)), .long (hz_l (z 8)), .ref (r 9), .ref (r 10), .ref (r 11), .ref (r 12)]
noncomputable def cw_v6 (z : Nat → Int) (r : Nat → Nat) : List Value := [.ref (r 0), .ref (r 1), .ref (r 2), .ref (r 3), .ref (r 4)]
noncomputable def cw_v7 (z : Nat → Int) (r : Nat → Nat) : List Value := [.int (hz_i (z 0)), .ref (r 1), .ref (r 2), .ref (r 3), .ref (r 4), .int (hz_i (z 5)), .ref (r 6), .ref (r 7)]
noncomputable def cw_v8 (z : Nat → Int) (r : Nat → Nat) : List Value := [.ref (r 0), .ref (r 1), .ref (r 2), .ref (r 3), .int (hz_i (z 4)), .int (hz_i (z 5)), .int (hz_i (z 6)), .int (hz_i (z 7)), .long (hz_l (z 8)), .ref (r 9), .ref (r 10), .ref (r 11), .ref (r 12)]
noncomputable def cw_v9 (z : Nat → Int) (r : Nat → Nat) : List Value := [.ref (r 0), .ref (r 1), .ref (r 2)]
noncomputable def cw_v10 (z : Nat → Int) (r : Nat → Nat) : List Value := [.ref (r 0), .int (hz_i (z 1)), .int (hz_i (z 2)), .int (hz_i (z 3)), .int (hz_i (z 4)), .int (hz_i (z 5))]
noncomputable def cw_v11 (z : Nat → Int) (r : Nat → Nat) : List Value := [.ref (r 0), .ref (r 1), .int (hz_i (z 2)), .ref (r 3), .ref (r 4), .ref (r 5), .ref (r 6), .ref (r 7), .ref (r 8), .ref (r 9), .ref (r 10), .ref (r 11), .ref (r 12), .ref (r 13), .int (hz_i (z 14)), .int (hz_i (z 15))]
noncomputable def cw_v (ci : Nat) : (Nat → Int) → (Nat → Nat) → List Value := match ci with
  | 0 => cw_v0
  | 1 => cw_v1
  | 2 => cw_v2
  | 3 => cw_v3
  | 4 => cw_v4
  | 5 => cw_v5
  | 6 => cw_v6
  | 7 => cw_v7
  | 8 => cw_v8
  | 9 => cw_v9
  | 10 => cw_v10
  | 11 => cw_v11
  | _ => fun _ _ => []
noncomputable def cw_e (C : Nat → ClassId) (k : cw_K) (z : Nat → Int) (r : Nat → Nat) (A : Nat → Int) : va_E := match k with
  | .inl ci => .inr (ci, cw_v ci z r)
  | .inr (.inl (t, n)) => .inl (C t, n, if t = 1 then .inr (.inl (hz_b A)) else .inl (hz_a A))
  | .inr (.inr (t, n, f)) => .inl (C t, n, .inr (.inr (.inr (.inr (fun i => some (f i))))))
noncomputable def cw_w (C : Nat → ClassId) (L : List Nat) (K : Nat → cw_K) (z : Nat → Nat → Int) (r : Nat → Nat → Nat) (A : Nat → Nat → Int) : va_W := va_pl L (fun a => cw_e C (K a) (z a) (r a) (A a))
noncomputable def cw_t (C : Nat → ClassId) : List (ClassId × FieldType) := [(C 0, .int), (C 1, .long), (C 2, .char), (C 3, .boolean), (C 4, .object RX0), (C 5, .object RX4), (C 6, .object RX6), (C 7, .object RX7), (C 8, .object RX3), (C 9, .object RX9), (C 10, .array .long)]
/-- one field of one object changed -/
noncomputable def cw_s {α : Type} (z : Nat → Nat → α) (a k : Nat) (v : α) : Nat → Nat → α := lp_U z a (lp_U (z a) k v)
theorem cw_z0_1 (z : Nat → Int) (r : Nat → Nat) (v : Int) : (cw_v 0 z r).set 1 (.int (hz_i v)) = cw_v 0 (lp_U z 1 v) r := rfl
theorem cw_z0_2 (z : Nat → Int) (r : Nat → Nat) (v : Int) : (cw_v 0 z r).set 2 (.int (hz_i v)) = cw_v 0 (lp_U z 2 v) r := rfl
theorem cw_z1_1 (z : Nat → Int) (r : Nat → Nat) (v : Int) : (cw_v 1 z r).set 1 (.int (hz_i v)) = cw_v 1 (lp_U z 1 v) r := rfl
theorem cw_z1_2 (z : Nat → Int) (r : Nat → Nat) (v : Int) : (cw_v 1 z r).set 2 (.int (hz_i v)) = cw_v 1 (lp_U z 2 v) r := rfl
theorem cw_z2_2 (z : Nat → Int) (r : Nat → Nat) (v : Int) : (cw_v 2 z r).set 2 (.long (hz_l v)) = cw_v 2 (lp_U z 2 v) r := rfl
theorem cw_z4_2 (z : Nat → Int) (r : Nat → Nat) (v : Int) : (cw_v 4 z r).set 2 (.int (hz_i v)) = cw_v 4 (lp_U z 2 v) r := rfl
theorem cw_z5_0 (z : Nat → Int) (r : Nat → Nat) (v : Int) : (cw_v 5 z r).set 0 (.int (hz_i v)) = cw_v 5 (lp_U z 0 v) r := rfl
theorem cw_z5_1 (z : Nat → Int) (r : Nat → Nat) (v : Int) : (cw_v 5 z r).set 1 (.int (hz_i v)) = cw_v 5 (lp_U z 1 v) r := rfl
theorem cw_r5_3 (z : Nat → Int) (r : Nat → Nat) (v : Nat) : (cw_v 5 z r).set 3 (.ref v) = cw_v 5 z (lp_U r 3 v) := rfl
theorem cw_z5_5 (z : Nat → Int) (r : Nat → Nat) (v : Int) : (cw_v 5 z r).set 5 (.int (hz_i v)) = cw_v 5 (lp_U z 5 v) r := rfl
theorem cw_z5_6 (z : Nat → Int) (r : Nat → Nat) (v : Int) : (cw_v 5 z r).set 6 (.int (hz_i v)) = cw_v 5 (lp_U z 6 v) r := rfl
theorem cw_z5_7 (z : Nat → Int) (r : Nat → Nat) (v : Int) : (cw_v 5 z r).set 7 (.long (hz_l v)) = cw_v 5 (lp_U z 7 v) r := rfl
theorem cw_z5_8 (z : Nat → Int) (r : Nat → Nat) (v : Int) : (cw_v 5 z r).set 8 (.long (hz_l v)) = cw_v 5 (lp_U z 8 v) r := rfl
theorem cw_z7_0 (z : Nat → Int) (r : Nat → Nat) (v : Int) : (cw_v 7 z r).set 0 (.int (hz_i v)) = cw_v 7 (lp_U z 0 v) r := rfl
theorem cw_z7_5 (z : Nat → Int) (r : Nat → Nat) (v : Int) : (cw_v 7 z r).set 5 (.int (hz_i v)) = cw_v 7 (lp_U z 5 v) r := rfl
theorem cw_z8_4 (z : Nat → Int) (r : Nat → Nat) (v : Int) : (cw_v 8 z r).set 4 (.int (hz_i v)) = cw_v 8 (lp_U z 4 v) r := rfl
theorem cw_z8_5 (z : Nat → Int) (r : Nat → Nat) (v : Int) : (cw_v 8 z r).set 5 (.int (hz_i v)) = cw_v 8 (lp_U z 5 v) r := rfl
theorem cw_z8_6 (z : Nat → Int) (r : Nat → Nat) (v : Int) : (cw_v 8 z r).set 6 (.int (hz_i v)) = cw_v 8 (lp_U z 6 v) r := rfl
theorem cw_z8_7 (z : Nat → Int) (r : Nat → Nat) (v : Int) : (cw_v 8 z r).set 7 (.int (hz_i v)) = cw_v 8 (lp_U z 7 v) r := rfl
theorem cw_z8_8 (z : Nat → Int) (r : Nat → Nat) (v : Int) : (cw_v 8 z r).set 8 (.long (hz_l v)) = cw_v 8 (lp_U z 8 v) r := rfl
theorem cw_z10_1 (z : Nat → Int) (r : Nat → Nat) (v : Int) : (cw_v 10 z r).set 1 (.int (hz_i v)) = cw_v 10 (lp_U z 1 v) r := rfl
theorem cw_z10_2 (z : Nat → Int) (r : Nat → Nat) (v : Int) : (cw_v 10 z r).set 2 (.int (hz_i v)) = cw_v 10 (lp_U z 2 v) r := rfl
theorem cw_z10_3 (z : Nat → Int) (r : Nat → Nat) (v : Int) : (cw_v 10 z r).set 3 (.int (hz_i v)) = cw_v 10 (lp_U z 3 v) r := rfl
theorem cw_z10_4 (z : Nat → Int) (r : Nat → Nat) (v : Int) : (cw_v 10 z r).set 4 (.int (hz_i v)) = cw_v 10 (lp_U z 4 v) r := rfl
theorem cw_z10_5 (z : Nat → Int) (r : Nat → Nat) (v : Int) : (cw_v 10 z r).set 5 (.int (hz_i v)) = cw_v 10 (lp_U z 5 v) r := rfl
theorem cw_z11_2 (z : Nat → Int) (r : Nat → Nat) (v : Int) : (cw_v 11 z r).set 2 (.int (hz_i v)) = cw_v 11 (lp_U z 2 v) r := rfl
theorem cw_r11_13 (z : Nat → Int) (r : Nat → Nat) (v : Nat) : (cw_v 11 z r).set 13 (.ref v) = cw_v 11 z (lp_U r 13 v) := rfl
theorem cw_z11_14 (z : Nat → Int) (r : Nat → Nat) (v : Int) : (cw_v 11 z r).set 14 (.int (hz_i v)) = cw_v 11 (lp_U z 14 v) r := rfl
theorem cw_z11_15 (z : Nat → Int) (r : Nat → Nat) (v : Int) : (cw_v 11 z r).set 15 (.int (hz_i v)) = cw_v 11 (lp_U z 15 v) r := rfl
theorem cw_at {C : Nat → ClassId} {L : List Nat} {K : Nat → cw_K} {z : Nat → Nat → Int} {r : Nat → Nat → Nat} {A : Nat → Nat → Int} {a : Nat} (ha : a ∈ L) {k : cw_K} (hk : K a = k) : ∃ q0 : Nat, (cw_w C L K z r A)[q0]? = some (a, cw_e C k (z a) (r a) (A a)) := by
  obtain ⟨q0, h⟩ := va_pl_get (X := []) (f := fun a => cw_e C (K a) (z a) (r a) (A a)) ha
  refine ⟨q0, ?_⟩
  have h2 : (cw_w C L K z r A)[q0]? = some (a, cw_e C (K a) (z a) (r a) (A a)) := h
  rw [hk] at h2
  exact h2
theorem cw_set {C : Nat → ClassId} {L : List Nat} {K : Nat → cw_K} {z z1 : Nat → Nat → Int} {r r1 : Nat → Nat → Nat} {A A1 : Nat → Nat → Int} {a q0 : Nat} {Ad : Nat → Prop} {e : va_E} (hD : va_D Ad (cw_w C L K z r A)) (ha : a ∈ L) {k : cw_K} (hk : K a = k) (h : (cw_w C L K z r A)[q0]? = some (a, cw_e C k (z a) (r a) (A a))) (he : e = cw_e C k (z1 a) (r1 a) (A1 a)) (hz : ∀ b, b ≠ a → z1 b = z b) (hr : ∀ b, b ≠ a → r1 b = r b) (hA : ∀ b, b ≠ a → A1 b = A b) : (cw_w C L K z r A).set q0 (a, e) = cw_w C L K z1 r1 A1 := by
  have h0 : ([] ++ va_pl L (fun a => cw_e C (K a) (z a) (r a) (A a)))[q0]? = some (a, (fun a => cw_e C (K a) (z a) (r a) (A a)) a) := by
    show (cw_w C L K z r A)[q0]? = some (a, cw_e C (K a) (z a) (r a) (A a))
    rw [hk]
    exact h
  have h1 := va_pl_set (X := []) (e := e) hD ha h0
  have h2 : (cw_w C L K z r A).set q0 (a, e) = va_pl L (va_up (fun a => cw_e C (K a) (z a) (r a) (A a)) a e) := h1
  rw [h2]
  refine va_pl_congr (fun b => ?_)
  by_cases hb : b = a
  · subst hb
    rw [va_up_self, he, hk]
  · rw [va_up_ne _ _ hb, hz b hb, hr b hb, hA b hb]
section CW
variable {p : Program} {l : Launch} {e : Env} {Ro : Room} {s : State} {m : MethodId} {args : Array Value} {below : List Frame} {meth : Method} {c : Code} {H : Heap} {locs : List Loc} {cells slots : Nat} {Q : State → Prop}
variable {cc : ByteArray} {pc : Nat} {ls : Array Slot} {rest : List Value} {D : va_G} {Ad : Nat → Prop} {H0 : Heap} {C : Nat → ClassId} {L : List Nat} {K : Nat → cw_K} {z : Nat → Nat → Int} {r : Nat → Nat → Nat} {A : Nat → Nat → Int} {a : Nat}
theorem cw_get (hexec : p.tables.exec = Jvm.exec) (hb : c.code = cc) {own ref Cn : String} {T : u_T} {N ci index : Nat} {Ts : List Cond} (hts : ∀ w ∈ Ts, w.before args s = true) (hin : ∀ w ∈ u_ws Cn T N, w ∈ Ts) (hown : s.vm.findClass own = some m.cls) (hK : va_K D vwCl (cw_t C) s) (hP : va_P D vwCl (cw_w C L K z r A) H) (ha : a ∈ L) (hka : K a = .inl ci) (hc : vwCl[ci]? = some (Cn, T, N)) (k : Nat) (hk : k < N) (hlink : (Cond.fieldLink own index ref (T k).2.1 (T k).2.2.1).before args s = true) (hsame : ∀ x, s.fieldFound? (T k).1 (T k).2.1 (T k).2.2.1 = some x → s.fieldFound? ref (T k).2.1 (T k).2.2.1 = some x) {v : Value} (hv : (cw_v ci (z a) (r a))[k]? = some v) (hdg : decode cc pc = .ok (.getfield index, 3)) (kk : W p l e Ro s m args below meth c H locs cells slots Q (F0 m (pc + 3) ls (v :: rest))) : W p l e Ro s m args below meth c H locs cells slots Q (F0 m pc ls (.ref a :: rest)) := by
  obtain ⟨q0, hq⟩ := cw_at (C := C) (z := z) (r := r) (A := A) ha hka
  exact va_get hexec hb hts hin hown hK hP q0 hq hc k hk hlink hsame hv hdg kk
theorem cw_putz (hexec : p.tables.exec = Jvm.exec) (hb : c.code = cc) {own ref Cn : String} {T : u_T} {N ci index : Nat} {Ts : List Cond} (hts : ∀ w ∈ Ts, w.before args s = true) (hin : ∀ w ∈ u_ws Cn T N, w ∈ Ts) (ty0 : Nat → FieldType) (hty : ∀ k, k < N → parseFieldDescriptor (T k).2.2.1 = some (ty0 k)) (hnm : ∀ a, a < N → ∀ b, b < N → a ≠ b → (T a).2.1 ≠ (T b).2.1) (hown : s.vm.findClass own = some m.cls) (hK : va_K D vwCl (cw_t C) s) (hP : va_P D vwCl (cw_w C L K z r A) H) (hD : va_D Ad (cw_w C L K z r A)) (hS : va_S Ad H0 H locs) (ha : a ∈ L) (hka : K a = .inl ci) (hc : vwCl[ci]? = some (Cn, T, N)) (k : Nat) (hk : k < N) (hlink : (Cond.fieldLink own index ref (T k).2.1 (T k).2.2.1).before args s = true) (hsame : ∀ x, s.fieldFound? (T k).1 (T k).2.1 (T k).2.2.1 = some x → s.fieldFound? ref (T k).2.1 (T k).2.2.1 = some x) (hfin : (T k).2.2.2 = false) {ty : FieldType} {v : Value} (hd : parseFieldDescriptor (T k).2.2.1 = some ty) (hn : narrow ty v = v) (hfit : fits ty v = true) (hl : k < (cw_v ci (z a) (r a)).length) {x : Int} (hset : (cw_v ci (z a) (r a)).set k v = cw_v ci (lp_U (z a) k x) (r a)) (hdg : decode cc pc = .ok (.putfield index, 3)) (kk : ∀ (H1 : Heap) (locs1 : List Loc), va_P D vwCl (cw_w C L K (cw_s z a k x) r A) H1 → va_D Ad (cw_w C L K (cw_s z a k x) r A) → va_S Ad H0 H1 locs1 → W p l e Ro s m args below meth c H1 locs1 cells slots Q (F0 m (pc + 3) ls (rest))) : W p l e Ro s m args below meth c H locs cells slots Q (F0 m pc ls (v :: .ref a :: rest)) := by
  obtain ⟨q0, hq⟩ := cw_at (C := C) (z := z) (r := r) (A := A) ha hka
  refine va_put hexec hb hts hin ty0 hty hnm hown hK hP hD hS q0 hq hc k hk hlink hsame hfin hd hn hfit hl hdg (fun H1 locs1 h1 h2 h3 => ?_)
  have es : (cw_w C L K z r A).set q0 (a, .inr (ci, (cw_v ci (z a) (r a)).set k v)) = cw_w C L K (cw_s z a k x) r A := by
    refine cw_set hD ha hka hq ?_ (fun b hb => lp_U_other hb) (fun b hb => rfl) (fun _ _ => rfl)
    rw [hset]
    unfold cw_s
    rw [lp_U_same]
    rfl
  rw [es] at h1 h2
  exact kk H1 locs1 h1 h2 h3
theorem cw_putr (hexec : p.tables.exec = Jvm.exec) (hb : c.code = cc) {own ref Cn : String} {T : u_T} {N ci index : Nat} {Ts : List Cond} (hts : ∀ w ∈ Ts, w.before args s = true) (hin : ∀ w ∈ u_ws Cn T N, w ∈ Ts) (ty0 : Nat → FieldType) (hty : ∀ k, k < N → parseFieldDescriptor (T k).2.2.1 = some (ty0 k)) (hnm : ∀ a, a < N → ∀ b, b < N → a ≠ b → (T a).2.1 ≠ (T b).2.1) (hown : s.vm.findClass own = some m.cls) (hK : va_K D vwCl (cw_t C) s) (hP : va_P D vwCl (cw_w C L K z r A) H) (hD : va_D Ad (cw_w C L K z r A)) (hS : va_S Ad H0 H locs) (ha : a ∈ L) (hka : K a = .inl ci) (hc : vwCl[ci]? = some (Cn, T, N)) (k : Nat) (hk : k < N) (hlink : (Cond.fieldLink own index ref (T k).2.1 (T k).2.2.1).before args s = true) (hsame : ∀ x, s.fieldFound? (T k).1 (T k).2.1 (T k).2.2.1 = some x → s.fieldFound? ref (T k).2.1 (T k).2.2.1 = some x) (hfin : (T k).2.2.2 = false) {ty : FieldType} {v : Value} (hd : parseFieldDescriptor (T k).2.2.1 = some ty) (hn : narrow ty v = v) (hfit : fits ty v = true) (hl : k < (cw_v ci (z a) (r a)).length) {x : Nat} (hset : (cw_v ci (z a) (r a)).set k v = cw_v ci (z a) (lp_U (r a) k x)) (hdg : decode cc pc = .ok (.putfield index, 3)) (kk : ∀ (H1 : Heap) (locs1 : List Loc), va_P D vwCl (cw_w C L K z (cw_s r a k x) A) H1 → va_D Ad (cw_w C L K z (cw_s r a k x) A) → va_S Ad H0 H1 locs1 → W p l e Ro s m args below meth c H1 locs1 cells slots Q (F0 m (pc + 3) ls (rest))) : W p l e Ro s m args below meth c H locs cells slots Q (F0 m pc ls (v :: .ref a :: rest)) := by
  obtain ⟨q0, hq⟩ := cw_at (C := C) (z := z) (r := r) (A := A) ha hka
  refine va_put hexec hb hts hin ty0 hty hnm hown hK hP hD hS q0 hq hc k hk hlink hsame hfin hd hn hfit hl hdg (fun H1 locs1 h1 h2 h3 => ?_)
  have es : (cw_w C L K z r A).set q0 (a, .inr (ci, (cw_v ci (z a) (r a)).set k v)) = cw_w C L K z (cw_s r a k x) A := by
    refine cw_set hD ha hka hq ?_ (fun b hb => rfl) (fun b hb => lp_U_other hb) (fun _ _ => rfl)
    rw [hset]
    unfold cw_s
    rw [lp_U_same]
    rfl
  rw [es] at h1 h2
  exact kk H1 locs1 h1 h2 h3
theorem cw_ild (hexec : p.tables.exec = Jvm.exec) (hb : c.code = cc) (hK : va_K D vwCl (cw_t C) s) (hP : va_P D vwCl (cw_w C L K z r A) H) (ha : a ∈ L) {n : Nat} (hka : K a = .inr (.inl (0, n))) {i : Int} (hi : 0 ≤ i ∧ i < n) (hn : n < 2 ^ 31) (hdg : decode cc pc = .ok (.iaload, 1)) (kk : W p l e Ro s m args below meth c H locs cells slots Q (F0 m (pc + 1) ls (.int (hz_i (A a i.toNat)) :: rest))) : W p l e Ro s m args below meth c H locs cells slots Q (F0 m pc ls (.int (hz_i i) :: .ref a :: rest)) := by
  obtain ⟨q0, hq⟩ := cw_at (C := C) (z := z) (r := r) (A := A) ha hka
  refine va_iald hexec hb hK hP q0 0 hq rfl (hz_in hi hn) hdg ?_
  rw [hz_ix hi hn]
  exact kk
theorem cw_zld (hexec : p.tables.exec = Jvm.exec) (hb : c.code = cc) (hK : va_K D vwCl (cw_t C) s) (hP : va_P D vwCl (cw_w C L K z r A) H) (ha : a ∈ L) {n : Nat} (hka : K a = .inr (.inl (3, n))) {i : Int} (hi : 0 ≤ i ∧ i < n) (hn : n < 2 ^ 31) (hdg : decode cc pc = .ok (.baload, 1)) (kk : W p l e Ro s m args below meth c H locs cells slots Q (F0 m (pc + 1) ls (.int (hz_i (A a i.toNat)) :: rest))) : W p l e Ro s m args below meth c H locs cells slots Q (F0 m pc ls (.int (hz_i i) :: .ref a :: rest)) := by
  obtain ⟨q0, hq⟩ := cw_at (C := C) (z := z) (r := r) (A := A) ha hka
  refine va_zald hexec hb hK hP q0 3 hq rfl (hz_in hi hn) hdg ?_
  rw [hz_ix hi hn]
  exact kk
theorem cw_cld (hexec : p.tables.exec = Jvm.exec) (hb : c.code = cc) (hK : va_K D vwCl (cw_t C) s) (hP : va_P D vwCl (cw_w C L K z r A) H) (ha : a ∈ L) {n : Nat} (hka : K a = .inr (.inl (2, n))) {i : Int} (hi : 0 ≤ i ∧ i < n) (hn : n < 2 ^ 31) (hdg : decode cc pc = .ok (.caload, 1)) (kk : W p l e Ro s m args below meth c H locs cells slots Q (F0 m (pc + 1) ls (.int (hz_i (A a i.toNat)) :: rest))) : W p l e Ro s m args below meth c H locs cells slots Q (F0 m pc ls (.int (hz_i i) :: .ref a :: rest)) := by
  obtain ⟨q0, hq⟩ := cw_at (C := C) (z := z) (r := r) (A := A) ha hka
  refine va_cald hexec hb hK hP q0 2 hq rfl (hz_in hi hn) hdg ?_
  rw [hz_ix hi hn]
  exact kk
theorem cw_lld (hexec : p.tables.exec = Jvm.exec) (hb : c.code = cc) (hK : va_K D vwCl (cw_t C) s) (hP : va_P D vwCl (cw_w C L K z r A) H) (ha : a ∈ L) {n : Nat} (hka : K a = .inr (.inl (1, n))) {i : Int} (hi : 0 ≤ i ∧ i < n) (hn : n < 2 ^ 31) (hdg : decode cc pc = .ok (.laload, 1)) (kk : W p l e Ro s m args below meth c H locs cells slots Q (F0 m (pc + 1) ls (.long (hz_l (A a i.toNat)) :: rest))) : W p l e Ro s m args below meth c H locs cells slots Q (F0 m pc ls (.int (hz_i i) :: .ref a :: rest)) := by
  obtain ⟨q0, hq⟩ := cw_at (C := C) (z := z) (r := r) (A := A) ha hka
  refine va_lald hexec hb hK hP q0 1 hq rfl (hz_in hi hn) hdg ?_
  rw [hz_ix hi hn]
  exact kk
theorem cw_ist (hexec : p.tables.exec = Jvm.exec) (hb : c.code = cc) (hK : va_K D vwCl (cw_t C) s) (hP : va_P D vwCl (cw_w C L K z r A) H) (hD : va_D Ad (cw_w C L K z r A)) (hS : va_S Ad H0 H locs) (ha : a ∈ L) {n : Nat} (hka : K a = .inr (.inl (0, n))) {i v : Int} (hi : 0 ≤ i ∧ i < n) (hn : n < 2 ^ 31) (hdg : decode cc pc = .ok (.iastore, 1)) (kk : ∀ (H1 : Heap) (locs1 : List Loc), va_P D vwCl (cw_w C L K z r (hz_s A a i v)) H1 → va_D Ad (cw_w C L K z r (hz_s A a i v)) → va_S Ad H0 H1 locs1 → W p l e Ro s m args below meth c H1 locs1 cells slots Q (F0 m (pc + 1) ls (rest))) : W p l e Ro s m args below meth c H locs cells slots Q (F0 m pc ls (.int (hz_i v) :: .int (hz_i i) :: .ref a :: rest)) := by
  obtain ⟨q0, hq⟩ := cw_at (C := C) (z := z) (r := r) (A := A) ha hka
  refine va_iast hexec hb hK hP hD hS q0 0 hq rfl (hz_in hi hn) hdg (fun H1 locs1 h1 h2 h3 => ?_)
  rw [hz_a_set (A a) hi hn, cw_set (z1 := z) (r1 := r) (A1 := hz_s A a i v) hD ha hka hq ?_ (fun _ _ => rfl) (fun _ _ => rfl) (fun b hb => lp_U_other hb)] at h1 h2
  · exact kk H1 locs1 h1 h2 h3
  all_goals
    unfold hz_s
    rw [lp_U_same]
    rfl
theorem cw_zst (hexec : p.tables.exec = Jvm.exec) (hb : c.code = cc) (hK : va_K D vwCl (cw_t C) s) (hP : va_P D vwCl (cw_w C L K z r A) H) (hD : va_D Ad (cw_w C L K z r A)) (hS : va_S Ad H0 H locs) (ha : a ∈ L) {n : Nat} (hka : K a = .inr (.inl (3, n))) {i v : Int} (hi : 0 ≤ i ∧ i < n) (hn : n < 2 ^ 31) (hv : v = 0 ∨ v = 1) (hdg : decode cc pc = .ok (.bastore, 1)) (kk : ∀ (H1 : Heap) (locs1 : List Loc), va_P D vwCl (cw_w C L K z r (hz_s A a i v)) H1 → va_D Ad (cw_w C L K z r (hz_s A a i v)) → va_S Ad H0 H1 locs1 → W p l e Ro s m args below meth c H1 locs1 cells slots Q (F0 m (pc + 1) ls (rest))) : W p l e Ro s m args below meth c H locs cells slots Q (F0 m pc ls (.int (hz_i v) :: .int (hz_i i) :: .ref a :: rest)) := by
  obtain ⟨q0, hq⟩ := cw_at (C := C) (z := z) (r := r) (A := A) ha hka
  refine va_zast hexec hb hK hP hD hS q0 3 hq rfl (hz_in hi hn) hdg (fun H1 locs1 h1 h2 h3 => ?_)
  rw [hz_nZ hv, hz_a_set (A a) hi hn, cw_set (z1 := z) (r1 := r) (A1 := hz_s A a i v) hD ha hka hq ?_ (fun _ _ => rfl) (fun _ _ => rfl) (fun b hb => lp_U_other hb)] at h1 h2
  · exact kk H1 locs1 h1 h2 h3
  all_goals
    unfold hz_s
    rw [lp_U_same]
    rfl
theorem cw_cst (hexec : p.tables.exec = Jvm.exec) (hb : c.code = cc) (hK : va_K D vwCl (cw_t C) s) (hP : va_P D vwCl (cw_w C L K z r A) H) (hD : va_D Ad (cw_w C L K z r A)) (hS : va_S Ad H0 H locs) (ha : a ∈ L) {n : Nat} (hka : K a = .inr (.inl (2, n))) {i v : Int} (hi : 0 ≤ i ∧ i < n) (hn : n < 2 ^ 31) (hv : vp_nar .char (hz_i v) = hz_i v) (hdg : decode cc pc = .ok (.castore, 1)) (kk : ∀ (H1 : Heap) (locs1 : List Loc), va_P D vwCl (cw_w C L K z r (hz_s A a i v)) H1 → va_D Ad (cw_w C L K z r (hz_s A a i v)) → va_S Ad H0 H1 locs1 → W p l e Ro s m args below meth c H1 locs1 cells slots Q (F0 m (pc + 1) ls (rest))) : W p l e Ro s m args below meth c H locs cells slots Q (F0 m pc ls (.int (hz_i v) :: .int (hz_i i) :: .ref a :: rest)) := by
  obtain ⟨q0, hq⟩ := cw_at (C := C) (z := z) (r := r) (A := A) ha hka
  refine va_cast hexec hb hK hP hD hS q0 2 hq rfl (hz_in hi hn) hdg (fun H1 locs1 h1 h2 h3 => ?_)
  rw [hv, hz_a_set (A a) hi hn, cw_set (z1 := z) (r1 := r) (A1 := hz_s A a i v) hD ha hka hq ?_ (fun _ _ => rfl) (fun _ _ => rfl) (fun b hb => lp_U_other hb)] at h1 h2
  · exact kk H1 locs1 h1 h2 h3
  all_goals
    unfold hz_s
    rw [lp_U_same]
    rfl
theorem cw_lst (hexec : p.tables.exec = Jvm.exec) (hb : c.code = cc) (hK : va_K D vwCl (cw_t C) s) (hP : va_P D vwCl (cw_w C L K z r A) H) (hD : va_D Ad (cw_w C L K z r A)) (hS : va_S Ad H0 H locs) (ha : a ∈ L) {n : Nat} (hka : K a = .inr (.inl (1, n))) {i v : Int} (hi : 0 ≤ i ∧ i < n) (hn : n < 2 ^ 31) (hdg : decode cc pc = .ok (.lastore, 1)) (kk : ∀ (H1 : Heap) (locs1 : List Loc), va_P D vwCl (cw_w C L K z r (hz_s A a i v)) H1 → va_D Ad (cw_w C L K z r (hz_s A a i v)) → va_S Ad H0 H1 locs1 → W p l e Ro s m args below meth c H1 locs1 cells slots Q (F0 m (pc + 1) ls (rest))) : W p l e Ro s m args below meth c H locs cells slots Q (F0 m pc ls (.long (hz_l v) :: .int (hz_i i) :: .ref a :: rest)) := by
  obtain ⟨q0, hq⟩ := cw_at (C := C) (z := z) (r := r) (A := A) ha hka
  refine va_last hexec hb hK hP hD hS q0 1 hq rfl (hz_in hi hn) hdg (fun H1 locs1 h1 h2 h3 => ?_)
  rw [hz_b_set (A a) hi hn, cw_set (z1 := z) (r1 := r) (A1 := hz_s A a i v) hD ha hka hq ?_ (fun _ _ => rfl) (fun _ _ => rfl) (fun b hb => lp_U_other hb)] at h1 h2
  · exact kk H1 locs1 h1 h2 h3
  all_goals
    unfold hz_s
    rw [lp_U_same]
    rfl
theorem cw_ald (hexec : p.tables.exec = Jvm.exec) (hb : c.code = cc) (hK : va_K D vwCl (cw_t C) s) (hP : va_P D vwCl (cw_w C L K z r A) H) (ha : a ∈ L) {t n : Nat} {f : Nat → Nat} (hka : K a = .inr (.inr (t, n, f))) {Cn : String} (ht : (cw_t C)[t]? = some (C t, .object Cn)) {i : Int} (hi : 0 ≤ i ∧ i < n) (hn : n < 2 ^ 31) (hdg : decode cc pc = .ok (.aaload, 1)) (kk : W p l e Ro s m args below meth c H locs cells slots Q (F0 m (pc + 1) ls (.ref (f i.toNat) :: rest))) : W p l e Ro s m args below meth c H locs cells slots Q (F0 m pc ls (.int (hz_i i) :: .ref a :: rest)) := by
  obtain ⟨q0, hq⟩ := cw_at (C := C) (z := z) (r := r) (A := A) ha hka
  refine va_aldq hexec hb hK hP q0 t hq ht (hz_in hi hn) hdg ?_
  rw [hz_ix hi hn]
  exact kk
theorem cw_len (hexec : p.tables.exec = Jvm.exec) (hb : c.code = cc) (hK : va_K D vwCl (cw_t C) s) (hP : va_P D vwCl (cw_w C L K z r A) H) (ha : a ∈ L) {t n : Nat} (hka : K a = .inr (.inl (t, n))) {ty : FieldType} (ht : (cw_t C)[t]? = some (C t, ty)) (hdg : decode cc pc = .ok (.arraylength, 1)) (kk : W p l e Ro s m args below meth c H locs cells slots Q (F0 m (pc + 1) ls (.int (hz_i n) :: rest))) : W p l e Ro s m args below meth c H locs cells slots Q (F0 m pc ls (.ref a :: rest)) := by
  obtain ⟨q0, hq⟩ := cw_at (C := C) (z := z) (r := r) (A := A) ha hka
  exact va_alen (v := hz_i n) hexec hb hK hP q0 t hq ht (by rfl) hdg kk
theorem cw_free (hD : va_D Ad (cw_w C L K z r A)) (hS : va_S Ad H0 H locs) (hA : ∀ q, H0.size ≤ q → Ad q) : ∀ q, va_A (cw_w C L K z r A) H.size q → Ad q := by
  intro q hq
  rcases hq with ⟨k, e, hk⟩ | hq
  · exact hD.2 k _ hk
  · exact hA q (Nat.le_trans hS.1 hq)
end CW

-- 16.crules
/-- how long an array is, what an array of objects holds -/
noncomputable def cw_n (K : Nat → cw_K) (x : Nat) : Nat := match K x with
  | .inr (.inl (_, n)) => n
  | .inr (.inr (_, n, _)) => n
  | _ => 0
noncomputable def cw_g (K : Nat → cw_K) (x : Nat) : Nat → Nat := match K x with
  | .inr (.inr (_, _, f)) => f
  | _ => fun _ => 0
/-- an object of a class, an array of numbers, an array of objects -/
noncomputable def cw_O (L : List Nat) (K : Nat → cw_K) (ci x : Nat) : Prop := x ∈ L ∧ K x = .inl ci
noncomputable def cw_A (L : List Nat) (K : Nat → cw_K) (t x : Nat) : Prop := x ∈ L ∧ cw_n K x < 2 ^ 31 ∧ K x = .inr (.inl (t, cw_n K x))
noncomputable def cw_G (L : List Nat) (K : Nat → cw_K) (t x : Nat) : Prop := x ∈ L ∧ cw_n K x < 2 ^ 31 ∧ K x = .inr (.inr (t, cw_n K x, cw_g K x))
/-- the first n places of an array put over another -/
noncomputable def cw_cp (A : Nat → Nat → Int) (s d : Nat) (n : Int) : Nat → Nat → Int := lp_U A d (fun i => if (i : Int) < n then A s i else A d i)
theorem hz_l_bv (a : Int) : (hz_l a).toBitVec = BitVec.ofInt 64 a := rfl
theorem hz_i_bv (a : Int) : (hz_i a).toBitVec = BitVec.ofInt 32 a := rfl
theorem hz_l_nat (a : Int) : (hz_l a).toBitVec.toNat = (a % 18446744073709551616).toNat := by
  rw [hz_l_bv, BitVec.toNat_ofInt]
  rfl
theorem hz_i_nat (a : Int) : (hz_i a).toBitVec.toNat = (a % 4294967296).toNat := by
  rw [hz_i_bv, BitVec.toNat_ofInt]
  rfl
theorem hz_l_mod {a b : Int} : hz_l a = hz_l b ↔ a % 18446744073709551616 = b % 18446744073709551616 := by
  rw [← Int64.toBitVec_inj, ← BitVec.toNat_inj, hz_l_nat, hz_l_nat]
  omega
theorem hz_i_mod {a b : Int} : hz_i a = hz_i b ↔ a % 4294967296 = b % 4294967296 := by
  rw [← Int32.toBitVec_inj, ← BitVec.toNat_inj, hz_i_nat, hz_i_nat]
  omega
theorem hz_l_of_nat {x : Int64} {n : Nat} (h : x.toBitVec.toNat = n) : x = hz_l (n : Int) := by
  rw [← Int64.toBitVec_inj, ← BitVec.toNat_inj, hz_l_nat, h]
  have := x.toBitVec.isLt
  omega
theorem hz_i_of_nat {x : Int32} {n : Nat} (h : x.toBitVec.toNat = n) : x = hz_i (n : Int) := by
  rw [← Int32.toBitVec_inj, ← BitVec.toNat_inj, hz_i_nat, h]
  have := x.toBitVec.isLt
  omega
theorem hz_l_ushr' {a : Int} {D : UInt64} {d : Nat} (hD : D.toNat % 64 = d) : ((hz_l a).toUInt64 >>> D).toInt64 = hz_l (a % 18446744073709551616 / 2 ^ d) := by
  have e : ((hz_l a).toUInt64 >>> D).toInt64.toBitVec.toNat = (a % 18446744073709551616).toNat / 2 ^ d := by
    have e1 : ((hz_l a).toUInt64 >>> D).toInt64.toBitVec.toNat = ((hz_l a).toUInt64 >>> D).toNat := rfl
    have e2 : (hz_l a).toUInt64.toNat = (hz_l a).toBitVec.toNat := rfl
    rw [e1, UInt64.toNat_shiftRight, hD, Nat.shiftRight_eq_div_pow, e2, hz_l_nat]
  rw [hz_l_of_nat e]
  congr 1
  obtain ⟨n, hn⟩ : ∃ n : Nat, a % 18446744073709551616 = (n : Int) := ⟨(a % 18446744073709551616).toNat, by omega⟩
  rw [hn, Int.natCast_ediv, Int.natCast_pow]
  rfl
theorem hz_l_shl32 {a : Int} {D : Int64} (hD : (D.toBitVec.smod 64).toNat = 32) : hz_l a <<< D = hz_l (a * 4294967296) := by
  rw [← Int64.toBitVec_inj, ← BitVec.toNat_inj]
  have e : (hz_l a <<< D).toBitVec = (hz_l a).toBitVec <<< (D.toBitVec.smod 64) := rfl
  rw [e, BitVec.shiftLeft_eq', hD, BitVec.toNat_shiftLeft, hz_l_nat, hz_l_nat, Nat.shiftLeft_eq]
  show (a % 18446744073709551616).toNat * 4294967296 % 18446744073709551616 = _
  omega
theorem hz_l_or {a b : Int} (h : (0 ≤ a ∧ a < 4294967296 ∧ b % 4294967296 = 0) ∨ (0 ≤ b ∧ b < 4294967296 ∧ a % 4294967296 = 0)) : hz_l a ||| hz_l b = hz_l (a + b) := by
  have key : ∀ a b : Int, 0 ≤ a → a < 4294967296 → b % 4294967296 = 0 → (hz_l b ||| hz_l a) = hz_l (b + a) := by
    intro a b a0 a1 b0
    rw [← Int64.toBitVec_inj, ← BitVec.toNat_inj]
    have e : (hz_l b ||| hz_l a).toBitVec = (hz_l b).toBitVec ||| (hz_l a).toBitVec := rfl
    rw [e, BitVec.toNat_or, hz_l_nat, hz_l_nat, hz_l_nat]
    obtain ⟨n, hn⟩ : ∃ n : Nat, b % 18446744073709551616 = 4294967296 * (n : Int) := ⟨(b % 18446744073709551616 / 4294967296).toNat, by omega⟩
    have e1 : (b % 18446744073709551616).toNat = 2 ^ 32 * n := by rw [hn]; show _ = 4294967296 * n; omega
    have e2 : (a % 18446744073709551616).toNat < 2 ^ 32 := by show _ < 4294967296; omega
    rw [e1, ← Nat.two_pow_add_eq_or_of_lt e2]
    show 4294967296 * n + _ = _
    omega
  rcases h with ⟨h1, h2, h3⟩ | ⟨h1, h2, h3⟩
  · have := key a b h1 h2 h3
    rw [Int.add_comm a b, ← this]
    rw [← Int64.toBitVec_inj]
    exact BitVec.or_comm _ _
  · exact key b a h1 h2 h3
theorem hz_l_mask' {a b : Int} (k : Nat) (hk : k < 64) (hm : (hz_l b).toBitVec.toNat = 2 ^ k - 1) : hz_l a &&& hz_l b = hz_l (a % 2 ^ k) := by
  have e : (hz_l a &&& hz_l b).toBitVec.toNat = (a % 18446744073709551616).toNat % 2 ^ k := by
    have e : (hz_l a &&& hz_l b).toBitVec = (hz_l a).toBitVec &&& (hz_l b).toBitVec := rfl
    rw [e, BitVec.toNat_and, hm, Nat.and_two_pow_sub_one_eq_mod, hz_l_nat]
  rw [hz_l_of_nat e]
  congr 1
  obtain ⟨n, hn⟩ : ∃ n : Nat, a % 18446744073709551616 = (n : Int) := ⟨(a % 18446744073709551616).toNat, by omega⟩
  have h1 : a % 2 ^ k = a % 18446744073709551616 % 2 ^ k := by
    rw [Int.emod_emod_of_dvd]
    refine ⟨2 ^ (64 - k), ?_⟩
    rw [← Int.pow_add, show k + (64 - k) = 64 by omega]
    decide
  rw [h1, hn]
  norm_cast
theorem hz_i_mask' {a b : Int} (k : Nat) (hk : k < 32) (hm : (hz_i b).toBitVec.toNat = 2 ^ k - 1) : hz_i a &&& hz_i b = hz_i (a % 2 ^ k) := by
  have e : (hz_i a &&& hz_i b).toBitVec.toNat = (a % 4294967296).toNat % 2 ^ k := by
    have e : (hz_i a &&& hz_i b).toBitVec = (hz_i a).toBitVec &&& (hz_i b).toBitVec := rfl
    rw [e, BitVec.toNat_and, hm, Nat.and_two_pow_sub_one_eq_mod, hz_i_nat]
  rw [hz_i_of_nat e]
  congr 1
  obtain ⟨n, hn⟩ : ∃ n : Nat, a % 4294967296 = (n : Int) := ⟨(a % 4294967296).toNat, by omega⟩
  have h1 : a % 2 ^ k = a % 4294967296 % 2 ^ k := by
    rw [Int.emod_emod_of_dvd]
    refine ⟨2 ^ (32 - k), ?_⟩
    rw [← Int.pow_add, show k + (32 - k) = 32 by omega]
    decide
  rw [h1, hn]
  norm_cast
theorem hz_i_shr {a : Int} {D : Int32} {d : Nat} (ra : hz_rI a) (hD : (D.toBitVec.smod 32).toNat = d) : hz_i a >>> D = hz_i (a / 2 ^ d) := by
  apply Int32.toInt_inj.mp
  have e : (hz_i a >>> D).toInt = (hz_i a).toInt >>> d := by
    rw [← hD]
    exact BitVec.toInt_sshiftRight ..
  have hp : (0 : Int) < 2 ^ d := Int.pow_pos (by decide)
  have h1 : a / 2 ^ d ≤ (if 0 ≤ a then a else 0) := by
    split
    · next h => exact Int.ediv_le_self _ h
    · next h => exact Int.le_of_lt (Int.ediv_neg_of_neg_of_pos (by omega) hp)
  have h2 : (if 0 ≤ a then 0 else a) ≤ a / 2 ^ d := by
    split
    · next h => exact Int.ediv_nonneg h (Int.le_of_lt hp)
    · next h =>
      refine (Int.le_ediv_iff_mul_le hp).mpr ?_
      have h3 : a * 2 ^ d ≤ a * 1 := Int.mul_le_mul_of_nonpos_left (by omega) (by omega)
      omega
  rw [e, Int.shiftRight_eq_div_pow, hz_i_toInt ra, hz_i_toInt ⟨by split at h2 <;> omega, by split at h1 <;> omega⟩]
  norm_cast
theorem hz_i2c (a : Int) : ((hz_i a).toUInt32 % 65536).toInt32 = hz_i (a % 65536) := by
  have e : ((hz_i a).toUInt32 % 65536).toInt32.toBitVec.toNat = (a % 4294967296).toNat % 65536 := by
    have e1 : ((hz_i a).toUInt32 % 65536).toInt32.toBitVec.toNat = ((hz_i a).toUInt32 % 65536).toNat := rfl
    have e2 : (hz_i a).toUInt32.toNat = (hz_i a).toBitVec.toNat := rfl
    rw [e1, UInt32.toNat_mod, e2, hz_i_nat]
    rfl
  rw [hz_i_of_nat e]
  congr 1
  omega
section CR
variable {p : Program} {l : Launch} {e : Env} {R : Room} {s : State} {m : MethodId} {args : Array Value} {below : List Frame} {meth : Method} {c : Code} {H : Heap} {locs : List Loc} {cells slots : Nat} {Q : State → Prop}
variable {cc : ByteArray} {pc : Nat} {ls : Array Slot} {rest : List Value}
theorem cw_l2i (hexec : p.tables.exec = Jvm.exec) (hb : c.code = cc) {a : Int} (hdg : decode cc pc = .ok (.l2i, 1))  (kk : ∀ x : Int, hz_rI x → x % 4294967296 = a % 4294967296 → W p l e R s m args below meth c H locs cells slots Q (F0 m (pc + 1) ls (.int (hz_i x) :: rest))) : W p l e R s m args below meth c H locs cells slots Q (F0 m pc ls (.long (hz_l a) :: rest)) := by
  obtain ⟨x, hx, ex⟩ := hz_i_of (hz_i a)
  refine hz_wl2i hexec hb hdg ?_
  rw [ex]
  exact kk x hx (hz_i_mod.mp ex.symm)
theorem cw_i2c (hexec : p.tables.exec = Jvm.exec) (hb : c.code = cc) {a : Int} (hdg : decode cc pc = .ok (.i2c, 1))  (kk : ∀ x : Int, x = a % 65536 → W p l e R s m args below meth c H locs cells slots Q (F0 m (pc + 1) ls (.int (hz_i x) :: rest))) : W p l e R s m args below meth c H locs cells slots Q (F0 m pc ls (.int (hz_i a) :: rest)) := by
  exact lv_i2c hexec hb hdg (hz_i2c a) (kk _ rfl)
theorem cw_land {P : Int} (hexec : p.tables.exec = Jvm.exec) (hb : c.code = cc) {a b : Int} (k : Nat) (hdg : decode cc pc = .ok (.land, 1)) (hk : k < 64) (hm : (hz_l b).toBitVec.toNat = 2 ^ k - 1) (hP : (2 : Int) ^ k = P) (kk : ∀ x : Int, x = a % P → W p l e R s m args below meth c H locs cells slots Q (F0 m (pc + 1) ls (.long (hz_l x) :: rest))) : W p l e R s m args below meth c H locs cells slots Q (F0 m pc ls (.long (hz_l b) :: .long (hz_l a) :: rest)) := by
  refine lv_land hexec hb hdg ?_
  rw [hz_l_mask' k hk hm, hP]
  exact kk _ rfl
theorem cw_iand {P : Int} (hexec : p.tables.exec = Jvm.exec) (hb : c.code = cc) {a b : Int} (k : Nat) (hdg : decode cc pc = .ok (.iand, 1)) (hk : k < 32) (hm : (hz_i b).toBitVec.toNat = 2 ^ k - 1) (hP : (2 : Int) ^ k = P) (kk : ∀ x : Int, x = a % P → W p l e R s m args below meth c H locs cells slots Q (F0 m (pc + 1) ls (.int (hz_i x) :: rest))) : W p l e R s m args below meth c H locs cells slots Q (F0 m pc ls (.int (hz_i b) :: .int (hz_i a) :: rest)) := by
  refine lv_iand hexec hb hdg ?_
  rw [hz_i_mask' k hk hm, hP]
  exact kk _ rfl
theorem cw_iandx (hexec : p.tables.exec = Jvm.exec) (hb : c.code = cc) {a b : Int} (hdg : decode cc pc = .ok (.iand, 1))  (kk : ∀ x : Int, hz_rI x → x % 4294967296 = (((a % 4294967296).toNat &&& (b % 4294967296).toNat : Nat) : Int) → W p l e R s m args below meth c H locs cells slots Q (F0 m (pc + 1) ls (.int (hz_i x) :: rest))) : W p l e R s m args below meth c H locs cells slots Q (F0 m pc ls (.int (hz_i b) :: .int (hz_i a) :: rest)) := by
  refine lv_iand hexec hb hdg ?_
  obtain ⟨x, hx, ex⟩ := hz_i_of (hz_i a &&& hz_i b)
  rw [ex]
  refine kk x hx ?_
  have e : (hz_i x).toBitVec.toNat = (a % 4294967296).toNat &&& (b % 4294967296).toNat := by
    rw [← ex]
    have e1 : (hz_i a &&& hz_i b).toBitVec = (hz_i a).toBitVec &&& (hz_i b).toBitVec := rfl
    rw [e1, BitVec.toNat_and, hz_i_nat, hz_i_nat]
  rw [hz_i_nat] at e
  omega
theorem cw_inot (hexec : p.tables.exec = Jvm.exec) (hb : c.code = cc) {a : Int} (hdg : decode cc pc = .ok (.ixor, 1)) (kk : W p l e R s m args below meth c H locs cells slots Q (F0 m (pc + 1) ls (.int (hz_i (-1 - a)) :: rest))) : W p l e R s m args below meth c H locs cells slots Q (F0 m pc ls (.int (hz_i (-1)) :: .int (hz_i a) :: rest)) := by
  refine lv_ixor hexec hb hdg ?_
  have e : hz_i a ^^^ hz_i (-1) = hz_i (-1 - a) := by
    rw [← Int32.toBitVec_inj]
    have e1 : (hz_i a ^^^ hz_i (-1)).toBitVec = (hz_i a).toBitVec ^^^ (hz_i (-1)).toBitVec := rfl
    have e2 : (hz_i (-1)).toBitVec = BitVec.allOnes 32 := by decide +kernel
    rw [e1, e2, BitVec.xor_allOnes, ← BitVec.toNat_inj, BitVec.toNat_not, hz_i_nat, hz_i_nat]
    show 4294967296 - 1 - _ = _
    omega
  rw [e]
  exact kk
theorem cw_iushr {P : Int} {d : Nat} (hexec : p.tables.exec = Jvm.exec) (hb : c.code = cc) {a b : Int} (hdg : decode cc pc = .ok (.iushr, 1)) (hD : ((hz_i b).toUInt32 &&& Int32.toUInt32 31).toNat % 32 = d) (hP : (2 : Int) ^ d = P) (kk : ∀ x : Int, hz_rI x → x % 4294967296 = a % 4294967296 / P → W p l e R s m args below meth c H locs cells slots Q (F0 m (pc + 1) ls (.int (hz_i x) :: rest))) : W p l e R s m args below meth c H locs cells slots Q (F0 m pc ls (.int (hz_i b) :: .int (hz_i a) :: rest)) := by
  refine lv_iushr hexec hb hdg rfl ?_
  obtain ⟨x, hx, ex⟩ := hz_i_of (((hz_i a).toUInt32 >>> ((hz_i b).toUInt32 &&& Int32.toUInt32 31)).toInt32)
  rw [ex]
  refine kk x hx ?_
  have e : (hz_i x).toBitVec.toNat = (a % 4294967296).toNat / 2 ^ d := by
    rw [← ex]
    have e1 : (((hz_i a).toUInt32 >>> ((hz_i b).toUInt32 &&& Int32.toUInt32 31)).toInt32).toBitVec.toNat = ((hz_i a).toUInt32 >>> ((hz_i b).toUInt32 &&& Int32.toUInt32 31)).toNat := rfl
    have e2 : (hz_i a).toUInt32.toNat = (hz_i a).toBitVec.toNat := rfl
    rw [e1, UInt32.toNat_shiftRight, hD, Nat.shiftRight_eq_div_pow, e2, hz_i_nat]
  rw [hz_i_nat] at e
  obtain ⟨n, hn⟩ : ∃ n : Nat, a % 4294967296 = (n : Int) := ⟨(a % 4294967296).toNat, by omega⟩
  rw [hn, ← hP]
  rw [hn] at e
  have e3 : ((n : Int) / 2 ^ d) = ((n / 2 ^ d : Nat) : Int) := by
    rw [Int.natCast_ediv, Int.natCast_pow]
    rfl
  rw [e3]
  rw [Int.toNat_natCast] at e
  omega
theorem cw_ishr {P : Int} {d : Nat} (hexec : p.tables.exec = Jvm.exec) (hb : c.code = cc) {a b : Int} (hdg : decode cc pc = .ok (.ishr, 1)) (ra : hz_rI a) (hD : ((hz_i b &&& 31).toBitVec.smod 32).toNat = d) (hP : (2 : Int) ^ d = P) (kk : ∀ x : Int, x = a / P → W p l e R s m args below meth c H locs cells slots Q (F0 m (pc + 1) ls (.int (hz_i x) :: rest))) : W p l e R s m args below meth c H locs cells slots Q (F0 m pc ls (.int (hz_i b) :: .int (hz_i a) :: rest)) := by
  refine lv_ishr hexec hb hdg ?_
  rw [hz_i_shr ra hD, hP]
  exact kk _ rfl
theorem cw_lushr {P : Int} {d : Nat} (hexec : p.tables.exec = Jvm.exec) (hb : c.code = cc) {a b : Int} (hdg : decode cc pc = .ok (.lushr, 1)) (hD : ((hz_i b).toInt64.toUInt64 &&& Int64.toUInt64 63).toNat % 64 = d) (hP : (2 : Int) ^ d = P) (_hd : 0 < d) (kk : ∀ x : Int, x = a % 18446744073709551616 / P → W p l e R s m args below meth c H locs cells slots Q (F0 m (pc + 1) ls (.long (hz_l x) :: rest))) : W p l e R s m args below meth c H locs cells slots Q (F0 m pc ls (.int (hz_i b) :: .long (hz_l a) :: rest)) := by
  refine lv_lushr hexec hb hdg (by rw [hz_l_ushr' hD, hP]) (kk _ rfl)
theorem cw_sv : ∀ n : Fin 64, ((hz_i (n.val : Int)).toInt64.toUInt64 &&& Int64.toUInt64 63).toNat % 64 = n.val := by decide +kernel
theorem cw_lushrv (hexec : p.tables.exec = Jvm.exec) (hb : c.code = cc) {a b : Int} (hdg : decode cc pc = .ok (.lushr, 1)) (kk : ∀ x : Int, hz_rL x → ((0 ≤ b ∧ b < 64) → x % 18446744073709551616 = a % 18446744073709551616 / 2 ^ b.toNat) → W p l e R s m args below meth c H locs cells slots Q (F0 m (pc + 1) ls (.long (hz_l x) :: rest))) : W p l e R s m args below meth c H locs cells slots Q (F0 m pc ls (.int (hz_i b) :: .long (hz_l a) :: rest)) := by
  refine lv_lushr hexec hb hdg rfl ?_
  obtain ⟨x, hx, ex⟩ := hz_l_of (((hz_l a).toUInt64 >>> ((hz_i b).toInt64.toUInt64 &&& Int64.toUInt64 63)).toInt64)
  rw [ex]
  refine kk x hx (fun hb9 => ?_)
  have h := cw_sv ⟨b.toNat, by omega⟩
  have h2 : ((b.toNat : Nat) : Int) = b := by omega
  simp only [h2] at h
  rw [hz_l_ushr' h] at ex
  have e := hz_l_mod.mp ex.symm
  rw [e]
  have hp : (0 : Int) < 2 ^ b.toNat := Int.pow_pos (by decide)
  have h3 : 0 ≤ a % 18446744073709551616 / 2 ^ b.toNat := Int.ediv_nonneg (by omega) (by omega)
  have h4 : a % 18446744073709551616 / 2 ^ b.toNat ≤ a % 18446744073709551616 := Int.ediv_le_self _ (by omega)
  omega
theorem cw_lshl {P : Int} {d : Nat} (hexec : p.tables.exec = Jvm.exec) (hb : c.code = cc) {a b : Int} (hdg : decode cc pc = .ok (.lshl, 1)) (hD : (((hz_i b).toInt64 &&& 63).toBitVec.smod 64).toNat = 32) (hP : P = 4294967296) (kk : ∀ x : Int, hz_rL x → x % 18446744073709551616 = a * P % 18446744073709551616 → W p l e R s m args below meth c H locs cells slots Q (F0 m (pc + 1) ls (.long (hz_l x) :: rest))) : W p l e R s m args below meth c H locs cells slots Q (F0 m pc ls (.int (hz_i b) :: .long (hz_l a) :: rest)) := by
  refine lv_lshl hexec hb hdg rfl ?_
  obtain ⟨x, hx, ex⟩ := hz_l_of (hz_l a <<< ((hz_i b).toInt64 &&& 63))
  rw [ex]
  refine kk x hx ?_
  rw [hz_l_shl32 hD] at ex
  rw [hP]
  exact hz_l_mod.mp ex.symm
theorem cw_lor (hexec : p.tables.exec = Jvm.exec) (hb : c.code = cc) {a b : Int} (hdg : decode cc pc = .ok (.lor, 1))  (kk : ∀ x : Int, hz_rL x → (((0 ≤ a ∧ a < 4294967296 ∧ b % 4294967296 = 0) ∨ (0 ≤ b ∧ b < 4294967296 ∧ a % 4294967296 = 0)) → x % 18446744073709551616 = (a + b) % 18446744073709551616) → W p l e R s m args below meth c H locs cells slots Q (F0 m (pc + 1) ls (.long (hz_l x) :: rest))) : W p l e R s m args below meth c H locs cells slots Q (F0 m pc ls (.long (hz_l b) :: .long (hz_l a) :: rest)) := by
  refine lv_lor hexec hb hdg ?_
  obtain ⟨x, hx, ex⟩ := hz_l_of (hz_l a ||| hz_l b)
  rw [ex]
  refine kk x hx (fun h => ?_)
  rw [hz_l_or h] at ex
  exact hz_l_mod.mp ex.symm
theorem cw_nri {a : Int} (kk : ∀ x : Int, hz_rI x → x % 4294967296 = a % 4294967296 → W p l e R s m args below meth c H locs cells slots Q (F0 m pc ls (.int (hz_i x) :: rest))) : W p l e R s m args below meth c H locs cells slots Q (F0 m pc ls (.int (hz_i a) :: rest)) := by
  obtain ⟨x, hx, ex⟩ := hz_i_of (hz_i a)
  rw [ex]
  exact kk x hx (hz_i_mod.mp ex.symm)
theorem cw_nrl {a : Int} (kk : ∀ x : Int, hz_rL x → x % 18446744073709551616 = a % 18446744073709551616 → W p l e R s m args below meth c H locs cells slots Q (F0 m pc ls (.long (hz_l x) :: rest))) : W p l e R s m args below meth c H locs cells slots Q (F0 m pc ls (.long (hz_l a) :: rest)) := by
  obtain ⟨x, hx, ex⟩ := hz_l_of (hz_l a)
  rw [ex]
  exact kk x hx (hz_l_mod.mp ex.symm)
theorem cw_mmin {rest : List Value} (hexec : p.tables.exec = Jvm.exec) (hb : c.code = cc) (hml : c.maxLocals = ls.size) {own : String} {index : Nat} (hown : s.vm.findClass own = some m.cls) (hlink : (Cond.methodLink own index Lib.Math.min.name).before args s = true) (hstat : (Cond.static Lib.Math.min.name).before args s = true) (hini : (Cond.initialized "java/lang/Math").before args s = true) (hcode : (Cond.code Lib.Math.min.name Lib.Math.min.code 2 (some .int)).before args s = true) (hframes : 1 ≤ R.frames) (hlocals : (rest.map fun v => v.category).sum + 13 ≤ R.locals) (hc : cells ≤ R.cells) (hs : slots ≤ R.slots) {x y : Int} (hdg : decode cc pc = .ok (.invokestatic index, 3)) (rx : hz_rI x) (ry : hz_rI y)
    (kk : ∀ v : Int, v = min x y → W p l e R s m args below meth c H locs cells slots Q (F0 m (pc + 3) ls (.int (hz_i v) :: rest))) : W p l e R s m args below meth c H locs cells slots Q (F0 m pc ls (.int (hz_i y) :: .int (hz_i x) :: rest)) := by
  refine va_mmin hexec hb hml hown hlink hstat hini hcode hframes hlocals hc hs hdg ?_
  have h := kk (min x y) rfl
  by_cases hxy : y < x
  · rw [if_pos ((hz_i_lt ry rx).mpr hxy)]
    rw [show min x y = y by omega] at h
    exact h
  · rw [if_neg (fun q => hxy ((hz_i_lt ry rx).mp q))]
    rw [show min x y = x by omega] at h
    exact h
theorem cw_mmax {rest : List Value} (hexec : p.tables.exec = Jvm.exec) (hb : c.code = cc) (hml : c.maxLocals = ls.size) {own : String} {index : Nat} (hown : s.vm.findClass own = some m.cls) (hlink : (Cond.methodLink own index Lib.Math.max.name).before args s = true) (hstat : (Cond.static Lib.Math.max.name).before args s = true) (hini : (Cond.initialized "java/lang/Math").before args s = true) (hcode : (Cond.code Lib.Math.max.name Lib.Math.max.code 2 (some .int)).before args s = true) (hframes : 1 ≤ R.frames) (hlocals : (rest.map fun v => v.category).sum + 13 ≤ R.locals) (hc : cells ≤ R.cells) (hs : slots ≤ R.slots) {x y : Int} (hdg : decode cc pc = .ok (.invokestatic index, 3)) (rx : hz_rI x) (ry : hz_rI y)
    (kk : ∀ v : Int, v = max x y → W p l e R s m args below meth c H locs cells slots Q (F0 m (pc + 3) ls (.int (hz_i v) :: rest))) : W p l e R s m args below meth c H locs cells slots Q (F0 m pc ls (.int (hz_i y) :: .int (hz_i x) :: rest)) := by
  refine va_mmax hexec hb hml hown hlink hstat hini hcode hframes hlocals hc hs hdg ?_
  have h := kk (max x y) rfl
  by_cases hxy : x < y
  · rw [if_pos ((hz_i_lt rx ry).mpr hxy)]
    rw [show max x y = y by omega] at h
    exact h
  · rw [if_neg (fun q => hxy ((hz_i_lt rx ry).mp q))]
    rw [show max x y = x by omega] at h
    exact h
theorem cw_mabs_long {rest : List Value} (hexec : p.tables.exec = Jvm.exec) (hb : c.code = cc) (hml : c.maxLocals = ls.size) {own : String} {index : Nat} (hown : s.vm.findClass own = some m.cls) (hlink : (Cond.methodLink own index Lib.MathLoose.abs_long.x).before args s = true) (hstat : (Cond.static Lib.MathLoose.abs_long.x).before args s = true) (hini : (Cond.initialized "java/lang/Math").before args s = true) (hcode : (Cond.code Lib.MathLoose.abs_long.x Lib.MathLoose.abs_long.code 2 (some .long)).before args s = true) (hframes : 1 ≤ R.frames) (hlocals : (rest.map fun v => v.category).sum + 13 ≤ R.locals) (hc : cells ≤ R.cells) (hs : slots ≤ R.slots) {x y : Int} (hdg : decode cc pc = .ok (.invokestatic index, 3)) (rx : hz_rL x) (_hm : -9223372036854775808 < x)
    (kk : ∀ v : Int, v = (x.natAbs : Int) → W p l e R s m args below meth c H locs cells slots Q (F0 m (pc + 3) ls (.long (hz_l v) :: rest))) : W p l e R s m args below meth c H locs cells slots Q (F0 m pc ls (.long (hz_l x) :: rest)) := by
  refine va_mabs_long hexec hb hml hown hlink hstat hini hcode hframes hlocals hc hs hdg ?_
  have h := kk (x.natAbs : Int) rfl
  by_cases hx : 0 < x
  · rw [if_pos (by
      rw [Int64.lt_iff_toInt_lt, hz_l_toInt rx]
      exact hx)]
    rw [show ((x.natAbs : Nat) : Int) = x by omega] at h
    exact h
  · rw [if_neg (by
      rw [Int64.lt_iff_toInt_lt, hz_l_toInt rx]
      exact hx)]
    rw [show ((x.natAbs : Nat) : Int) = -x by omega] at h
    have e : - hz_l x = hz_l (-x) := by
      unfold hz_l
      exact (Int64.ofInt_neg _).symm
    rw [e]
    exact h
end CR
theorem cw_nC {v : Int} (h : 0 ≤ v ∧ v < 65536) : vp_nar .char (hz_i v) = hz_i v := by
  rw [vp_nar_char]
  obtain ⟨n, rfl⟩ : ∃ n : Nat, v = (n : Int) := ⟨v.toNat, by omega⟩
  have e : hz_i (n : Int) = Int32.ofNat n := rfl
  rw [e]
  apply Int32.toBitVec_inj.mp
  apply BitVec.eq_of_toNat_eq
  simp
  omega
section CX
variable {p : Program} {l : Launch} {e : Env} {R : Room} {s : State} {m : MethodId} {args : Array Value} {below : List Frame} {meth : Method} {c : Code} {H : Heap} {locs : List Loc} {cells slots : Nat} {Q : State → Prop}
variable {cc : ByteArray} {pc : Nat} {ls : Array Slot} {rest : List Value} {D : va_G} {Ad : Nat → Prop} {H0 : Heap} {C : Nat → ClassId} {L : List Nat} {K : Nat → cw_K} {z : Nat → Nat → Int} {r : Nat → Nat → Nat} {A : Nat → Nat → Int} {a : Nat}
theorem cw_aldJ (hexec : p.tables.exec = Jvm.exec) (hb : c.code = cc) (hK : va_K D vwCl (cw_t C) s) (hP : va_P D vwCl (cw_w C L K z r A) H) (ha : a ∈ L) {n : Nat} {f : Nat → Nat} (hka : K a = .inr (.inr (10, n, f))) {i : Int} (hi : 0 ≤ i ∧ i < n) (hn : n < 2 ^ 31) (hdg : decode cc pc = .ok (.aaload, 1)) (kk : W p l e R s m args below meth c H locs cells slots Q (F0 m (pc + 1) ls (.ref (f i.toNat) :: rest))) : W p l e R s m args below meth c H locs cells slots Q (F0 m pc ls (.int (hz_i i) :: .ref a :: rest)) := by
  obtain ⟨q0, hq⟩ := cw_at (C := C) (z := z) (r := r) (A := A) ha hka
  have hin : vp_in (hz_i i) n := hz_in hi hn
  have hc : (hz_i i).toNatClampNeg = i.toNat := hz_ix hi hn
  refine W.aald (v := .ref (f i.toNat)) (ty := .array .long) hexec hb (hP q0 _ hq) ((hK.2 10 _ rfl).1 n (fun j => va_rf (some (f j)))) rfl (fun q => by cases q) (by show ¬ (hz_i i < 0 ∨ (arrV _ _ _).slots.size ≤ _); rw [arrV_size]; exact hin) ?_ rfl rfl hdg kk
  show (arrV _ _ _).slots[_]? = _
  rw [hc, arrV_read _ _ (show i.toNat < n by omega)]
  rfl
theorem cw_copy {n : Int} {x y : Nat} {index : Nat} {own : String} (hexec : p.tables.exec = Jvm.exec) (hb : c.code = cc) (hml : c.maxLocals = ls.size) (hown : s.vm.findClass own = some m.cls) (hlink : (Cond.methodLink own index arraycopyName).before args s = true) (hnat : (Cond.native arraycopyName).before args s = true) (hstat : (Cond.static arraycopyName).before args s = true) (hini : (Cond.initialized "java/lang/System").before args s = true) (hK : va_K D vwCl (cw_t C) s) (hP : va_P D vwCl (cw_w C L K z r A) H) (hD : va_D Ad (cw_w C L K z r A)) (hS : va_S Ad H0 H locs) (hx : cw_A L K 0 x) (hy : cw_A L K 0 y) (hn : 0 ≤ n ∧ n ≤ (cw_n K x : Int) ∧ n ≤ (cw_n K y : Int)) (hframes : 1 ≤ R.frames) (hlocals : (rest.map fun v => v.category).sum + (nativeFrameWords "java/lang/System" "arraycopy" 5 + 11) ≤ R.locals) (hdg : decode cc pc = .ok (.invokestatic index, 3))
    (kk : ∀ (H1 : Heap) (locs1 : List Loc), va_P D vwCl (cw_w C L K z r (cw_cp A x y n)) H1 → va_D Ad (cw_w C L K z r (cw_cp A x y n)) → va_S Ad H0 H1 locs1 → W p l e R s m args below meth c H1 locs1 cells slots Q (F0 m (pc + 3) ls rest)) : W p l e R s m args below meth c H locs cells slots Q (F0 m pc ls (.int (hz_i n) :: .int (hz_i 0) :: .ref y :: .int (hz_i 0) :: .ref x :: rest)) := by
  obtain ⟨q0, hq0⟩ := cw_at (C := C) (z := z) (r := r) (A := A) hx.1 hx.2.2
  obtain ⟨q1, hq1⟩ := cw_at (C := C) (z := z) (r := r) (A := A) hy.1 hy.2.2
  have n31 : n < 2147483648 := by have := hx.2.1; omega
  have ec : (hz_i n).toNatClampNeg = n.toNat := by
    have h1 := hz_i_toInt (a := n) ⟨by omega, by omega⟩
    show (hz_i n).toInt.toNat = _
    rw [h1]
  have e0 : (hz_i 0).toNatClampNeg = 0 := by decide +kernel
  refine va_copyi hexec hb hml hown hlink hnat hstat hini hK hP hD hS q0 q1 0 0 hq0 hq1 rfl rfl rfl (by decide +kernel) (by decide +kernel) (fun q => by have := (hz_i_lt (a := n) (b := 0) ⟨by omega, by omega⟩ ⟨by decide, by decide⟩).mp q; omega) (by rw [e0, ec]; omega) (by rw [e0, ec]; omega) (fun i _ => rfl) hframes hlocals hdg (fun H1 locs1 h1 h2 h3 => ?_)
  have es : (cw_w C L K z r A).set q1 (y, .inl (C 0, cw_n K y, .inl (va_cpy (hz_a (A x)) (hz_a (A y)) (hz_i 0).toNatClampNeg (hz_i 0).toNatClampNeg (hz_i n).toNatClampNeg))) = cw_w C L K z r (cw_cp A x y n) := by
    refine cw_set hD hy.1 hy.2.2 hq1 ?_ (fun _ _ => rfl) (fun _ _ => rfl) (fun b hb => by unfold cw_cp; rw [lp_U_other hb])
    unfold cw_cp
    rw [lp_U_same, e0, ec]
    show (Sum.inl (C 0, cw_n K y, Sum.inl _) : va_E) = .inl (C 0, cw_n K y, .inl (hz_a _))
    congr 4
    funext i
    unfold va_cpy hz_a
    show _ = hz_i (if (i : Int) < n then A x i else A y i)
    by_cases hi : (i : Int) < n
    · rw [if_pos ⟨by omega, by omega⟩, if_pos hi]
      simp
    · rw [if_neg (fun q => by omega), if_neg hi]
  rw [es] at h1 h2
  exact kk H1 locs1 h1 h2 h3
end CX

-- 169.tb
theorem cw_tb1 {a k lo : Int} (h : hz_rI a) (e : a = k) (hk : lo ≤ k) : ¬ (hz_i a).toInt < lo := by
  rw [hz_i_toInt h]
  omega
theorem cw_tb2 {a k hi : Int} (h : hz_rI a) (e : a = k) (hk : k ≤ hi) : ¬ hi < (hz_i a).toInt := by
  rw [hz_i_toInt h]
  omega
