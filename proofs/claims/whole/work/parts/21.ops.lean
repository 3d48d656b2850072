/-! One instruction, as an equation of 'ev'. -/
def kF (o : xi_O) (ci k : Nat) (κ : Value → Option xi_R) : Option xi_R := match o with
  | .inr (c, fs) => if c = ci then (match fs[k]? with
    | some v => κ v
    | none => none) else none
  | _ => none
def kP (o : xi_O) (ci k : Nat) (v : Value) (κ : xi_O → Option xi_R) : Option xi_R := match o with
  | .inr (c, fs) => if c = ci ∧ k < fs.length then κ (.inr (c, fs.set k v)) else none
  | _ => none
def kI (o : xi_O) (i : Int32) (κ : Int32 → Option xi_R) : Option xi_R := match o with
  | .inl (0, n, .inl f) => if xi_in i n = true then κ (f i.toNatClampNeg) else none
  | _ => none
def kIs (o : xi_O) (i x : Int32) (κ : xi_O → Option xi_R) : Option xi_R := match o with
  | .inl (0, n, .inl f) => if xi_in i n = true then κ (.inl (0, n, .inl (upd f i.toNatClampNeg x))) else none
  | _ => none
def kB (o : xi_O) (i : Int32) (κ : Int32 → Option xi_R) (e : Option xi_R) : Option xi_R := match o with
  | .inl (1, n, .inl f) => if xi_in i n = true then κ (f i.toNatClampNeg) else e
  | .inl (2, n, .inl f) => if xi_in i n = true then κ (f i.toNatClampNeg) else e
  | _ => e
def kBs (o : xi_O) (i x : Int32) (κ : xi_O → Option xi_R) : Option xi_R := match o with
  | .inl (1, n, .inl f) => if xi_in i n = true then κ (.inl (1, n, .inl (upd f i.toNatClampNeg (vp_nar .byte x)))) else none
  | .inl (2, n, .inl f) => if xi_in i n = true then κ (.inl (2, n, .inl (upd f i.toNatClampNeg (vp_nar .boolean x)))) else none
  | _ => none
def kL (o : xi_O) (i : Int32) (κ : Int64 → Option xi_R) : Option xi_R := match o with
  | .inl (3, n, .inr (.inl f)) => if xi_in i n = true then κ (f i.toNatClampNeg) else none
  | _ => none
def kLs (o : xi_O) (i : Int32) (x : Int64) (κ : xi_O → Option xi_R) : Option xi_R := match o with
  | .inl (3, n, .inr (.inl f)) => if xi_in i n = true then κ (.inl (3, n, .inr (.inl (vp_updL f i.toNatClampNeg x)))) else none
  | _ => none
def kA (o : xi_O) (i : Int32) (κ : Nat → Option xi_R) : Option xi_R := match o with
  | .inl (4, n, .inr (.inr (.inr (.inr f)))) => if xi_in i n = true then (match f i.toNatClampNeg with
    | some r => κ r
    | none => none) else none
  | _ => none
def kC (o : Option xi_R) (κ : Option Value → xi_H → Option xi_R) : Option xi_R := match o with
  | some (.inl v, hp') => κ v hp'
  | _ => none
def kV (o : xi_O) (c : Nat) (κ : Option xi_R) : Option xi_R := match o with
  | .inr (c', _) => if c' = c then κ else none
  | _ => none
def kY (o0 o1 : xi_O) (sp dp n : Int32) (κ : xi_O → Option xi_R) : Option xi_R := match o0, o1 with
  | .inl (0, n0, .inl f), .inl (0, n1, .inl g) => if (0 ≤ sp ∧ 0 ≤ dp ∧ 0 ≤ n) ∧ sp.toNatClampNeg + n.toNatClampNeg ≤ n0 ∧ dp.toNatClampNeg + n.toNatClampNeg ≤ n1 then κ (.inl (0, n1, .inl (va_cpy f g sp.toNatClampNeg dp.toNatClampNeg n.toNatClampNeg))) else none
  | .inl (3, n0, .inr (.inl f)), .inl (3, n1, .inr (.inl g)) => if (0 ≤ sp ∧ 0 ≤ dp ∧ 0 ≤ n) ∧ sp.toNatClampNeg + n.toNatClampNeg ≤ n0 ∧ dp.toNatClampNeg + n.toNatClampNeg ≤ n1 then κ (.inl (3, n1, .inr (.inl (va_cpy f g sp.toNatClampNeg dp.toNatClampNeg n.toNatClampNeg)))) else none
  | _, _ => none
section XOP
variable {xs : Nat → Int32} {L : Nat} {mi pc len : Nat} {i : Instr} {ll st ll' st' : List Value} {hp hp' : xi_H}
theorem ev_pure (hc : xi_code mi pc = some (i, len)) (hl : len = xi_len i) (hb : xi_br i pc st = none) (hu : xi_pure i ll st = some (ll', st')) : ev xs L mi pc ll st hp = ev xs L mi (pc + len) ll' st' hp := by
  rw [ev_eq]
  unfold xi_step
  simp only [hc, hb, hu]
  rw [if_pos hl]
theorem ev_br {pc' : Nat} (hc : xi_code mi pc = some (i, len)) (hl : xi_len i = len ∨ xi_sw i = true) (hb : xi_br i pc st = some (pc', st')) : ev xs L mi pc ll st hp = ev xs L mi pc' ll st' hp := by
  rw [ev_eq]
  unfold xi_step
  simp only [hc, hb]
  rw [if_pos hl]
theorem ev_if {c : Jvm.ClassFile.Cond} {off : Int} {t : Nat} {x : Int32} (P : Prop) [Decidable P] (hc : xi_code mi pc = some (.ifCond c off, 3)) (ht : (pc : Int) + off = (t : Int)) (hP : xi_cc c x 0 = decide P) : ev xs L mi pc ll (.int x :: st) hp = if P then ev xs L mi t ll st hp else ev xs L mi (pc + 3) ll st hp := by
  have hb : xi_br (.ifCond c off) pc (.int x :: st) = some (if xi_cc c x 0 = true then t else pc + 3, st) := by
    show (if 0 ≤ (pc : Int) + off then some (if xi_cc c x 0 = true then ((pc : Int) + off).toNat else pc + 3, st) else none) = _
    rw [ht, if_pos (Int.natCast_nonneg t), Int.toNat_natCast]
  rw [ev_br hc (Or.inl rfl) hb, hP]
  by_cases h : P
  · rw [if_pos h, if_pos (decide_eq_true h)]
  · rw [if_neg h, if_neg (by simpa using h)]
theorem ev_icmp {c : Jvm.ClassFile.Cond} {off : Int} {t : Nat} {x y : Int32} (P : Prop) [Decidable P] (hc : xi_code mi pc = some (.if_icmp c off, 3)) (ht : (pc : Int) + off = (t : Int)) (hP : xi_cc c x y = decide P) : ev xs L mi pc ll (.int y :: .int x :: st) hp = if P then ev xs L mi t ll st hp else ev xs L mi (pc + 3) ll st hp := by
  have hb : xi_br (.if_icmp c off) pc (.int y :: .int x :: st) = some (if xi_cc c x y = true then t else pc + 3, st) := by
    show (if 0 ≤ (pc : Int) + off then some (if xi_cc c x y = true then ((pc : Int) + off).toNat else pc + 3, st) else none) = _
    rw [ht, if_pos (Int.natCast_nonneg t), Int.toNat_natCast]
  rw [ev_br hc (Or.inl rfl) hb, hP]
  by_cases h : P
  · rw [if_pos h, if_pos (decide_eq_true h)]
  · rw [if_neg h, if_neg (by simpa using h)]
theorem ev_heap (hc : xi_code mi pc = some (i, len)) (hl : len = xi_len i) (hb : xi_br i pc st = none) (hu : xi_pure i ll st = none) (hh : xi_heap xs L mi i st hp = some (st', hp')) : ev xs L mi pc ll st hp = ev xs L mi (pc + len) ll st' hp' := by
  rw [ev_eq]
  unfold xi_step
  simp only [hc, hb, hu, hh]
  rw [if_pos hl]
/-- an instruction of the heap that can't go on -/
theorem ev_stop (hc : xi_code mi pc = some (i, len)) (hb : xi_br i pc st = none) (hu : xi_pure i ll st = none) (hh : xi_heap xs L mi i st hp = none) (hr : xi_ret mi i st = none) (hca : xi_call mi i st hp = none) (hs : xi_str mi i st hp = none) (ht : xi_thr mi pc i st = none) : ev xs L mi pc ll st hp = none := by
  rw [ev_eq]
  unfold xi_step
  simp only [hc, hb, hu, hh, hr, hca, hs, ht]
  split <;> rfl
theorem ev_getf {idx ci k a : Nat} (hc : xi_code mi pc = some (.getfield idx, 3)) (hf : xi_fld (xi_m mi).1 idx = some (ci, k)) (ho : (xi_m mi).1 ≠ 10) : ev xs L mi pc ll (.ref a :: st) hp = kF (hp.1 a) ci k (fun v => ev xs L mi (pc + 3) ll (v :: st) hp) := by
  have hs : ∀ (hp : xi_H), xi_str mi (.getfield idx) (.ref a :: st) hp = none := by
    intro hp
    show (if (xi_m mi).1 = 10 ∧ xi_rg 1 6 a = true then _ else none) = none
    rw [if_neg (fun h => ho h.1)]
  have hh : xi_heap xs L mi (.getfield idx) (.ref a :: st) hp = match hp.1 a with
      | .inr (c, fs) => if c = ci then match fs[k]? with
          | some v => some (v :: st, hp)
          | none => none
        else none
      | _ => none := by
    show xi_getf (xi_m mi).1 idx (.ref a :: st) hp = _
    unfold xi_getf
    simp only [hf]
    rfl
  unfold kF
  split
  · next c fs hof =>
    rw [hof] at hh
    by_cases h1 : c = ci
    · rw [if_pos h1]
      simp only [h1, if_true] at hh
      split
      · next v hv =>
        rw [hv] at hh
        exact ev_heap hc rfl rfl rfl hh
      · next hv =>
        rw [hv] at hh
        exact ev_stop hc rfl rfl hh rfl rfl (hs hp) rfl
    · rw [if_neg h1]
      simp only [if_neg h1] at hh
      exact ev_stop hc rfl rfl hh rfl rfl (hs hp) rfl
  · next hof =>
    have : xi_heap xs L mi (.getfield idx) (.ref a :: st) hp = none := by
      rw [hh]
      split
      · next c fs h9 => exact absurd h9 (hof c fs)
      · rfl
    exact ev_stop hc rfl rfl this rfl rfl (hs hp) rfl
theorem ev_putf {idx ci k a : Nat} {v : Value} {q : vw_C} (hc : xi_code mi pc = some (.putfield idx, 3)) (hf : xi_fld (xi_m mi).1 idx = some (ci, k)) (hq : xi_cl[ci]? = some q) (hfit : xi_fit (q.2.1 k).2.2.1 v = true ∧ ((q.2.1 k).2.2.2 = false ∨ (((xi_m mi).2.1 == "<init>") = true ∧ (xi_m mi).1 = ci))) : ev xs L mi pc ll (v :: .ref a :: st) hp = kP (hp.1 a) ci k v (fun o => ev xs L mi (pc + 3) ll st (xi_set hp.1 a o, hp.2)) := by
  have hb : xi_br (.putfield idx) pc (v :: .ref a :: st) = none := by cases v <;> rfl
  have hu : xi_pure (.putfield idx) ll (v :: .ref a :: st) = none := by cases v <;> rfl
  have hr : xi_ret mi (.putfield idx) (v :: .ref a :: st) = none := by cases v <;> rfl
  have hs : xi_str mi (.putfield idx) (v :: .ref a :: st) hp = none := by cases v <;> rfl
  have hh : xi_heap xs L mi (.putfield idx) (v :: .ref a :: st) hp = match hp.1 a with
      | .inr (c, fs) => if c = ci ∧ k < fs.length then some (st, xi_set hp.1 a (.inr (c, fs.set k v)), hp.2) else none
      | _ => none := by
    show xi_putf (xi_m mi).1 ((xi_m mi).2.1 == "<init>") idx (v :: .ref a :: st) hp = _
    unfold xi_putf
    simp only [hf, hq, if_pos hfit]
    rfl
  unfold kP
  split
  · next c fs hof =>
    rw [hof] at hh
    by_cases h1 : c = ci ∧ k < fs.length
    · rw [if_pos h1]
      simp only [if_pos h1] at hh
      exact ev_heap hc rfl hb hu hh
    · rw [if_neg h1]
      simp only [if_neg h1] at hh
      exact ev_stop hc hb hu hh hr rfl hs rfl
  · next hof =>
    have : xi_heap xs L mi (.putfield idx) (v :: .ref a :: st) hp = none := by
      rw [hh]
      split
      · next c fs h9 => exact absurd h9 (hof c fs)
      · rfl
    exact ev_stop hc hb hu this hr rfl hs rfl
theorem ev_iald {a : Nat} {x : Int32} (hc : xi_code mi pc = some (.iaload, 1)) (ha : a ≠ 0) : ev xs L mi pc ll (.int x :: .ref a :: st) hp = kI (hp.1 a) x (fun v => ev xs L mi (pc + 1) ll (.int v :: st) hp) := by
  have hh : xi_heap xs L mi .iaload (.int x :: .ref a :: st) hp = match hp.1 a with
      | .inl (t0, n, .inl f) => if (t0 = 0 ∨ (0 = 1 ∧ t0 = 2)) ∧ xi_in x n = true then some (.int (f x.toNatClampNeg) :: st, hp) else none
      | _ => none := by
    show xi_ald 0 xs L (.int x :: .ref a :: st) hp = _
    unfold xi_ald
    simp only [if_neg ha]
    rfl
  unfold kI
  split
  · next n f hof =>
    rw [hof] at hh
    by_cases h1 : xi_in x n = true
    · rw [if_pos h1]
      simp only [h1, and_true, true_or, if_true] at hh
      exact ev_heap hc rfl rfl rfl hh
    · rw [if_neg h1]
      simp only [h1, and_false, if_false] at hh
      exact ev_stop hc rfl rfl (hh.trans (by simp)) rfl rfl rfl rfl
  · next hof =>
    have : xi_heap xs L mi .iaload (.int x :: .ref a :: st) hp = none := by
      rw [hh]
      split
      · next t0 n f h9 =>
        rw [if_neg]
        rintro ⟨h | h, -⟩
        · exact hof n f (by rw [h9, h])
        · exact absurd h.1 (by decide)
      · rfl
    exact ev_stop hc rfl rfl this rfl rfl rfl rfl
theorem ev_iast {a : Nat} {x v : Int32} (hc : xi_code mi pc = some (.iastore, 1)) : ev xs L mi pc ll (.int v :: .int x :: .ref a :: st) hp = kIs (hp.1 a) x v (fun o => ev xs L mi (pc + 1) ll st (xi_set hp.1 a o, hp.2)) := by
  have hh : xi_heap xs L mi .iastore (.int v :: .int x :: .ref a :: st) hp = match hp.1 a with
      | .inl (t0, n, .inl f) => if ((t0 = 0 ∧ 0 = 0) ∨ (0 = 1 ∧ (t0 = 1 ∨ t0 = 2))) ∧ xi_in x n = true then some (st, xi_set hp.1 a (.inl (t0, n, .inl (upd f x.toNatClampNeg (xi_nar t0 v)))), hp.2) else none
      | _ => none := rfl
  unfold kIs
  split
  · next n f hof =>
    rw [hof] at hh
    by_cases h1 : xi_in x n = true
    · rw [if_pos h1]
      simp only [h1, and_true, true_or, if_true] at hh
      exact ev_heap hc rfl rfl rfl hh
    · rw [if_neg h1]
      exact ev_stop hc rfl rfl (hh.trans (by simp [h1])) rfl rfl rfl rfl
  · next hof =>
    have : xi_heap xs L mi .iastore (.int v :: .int x :: .ref a :: st) hp = none := by
      rw [hh]
      split
      · next t0 n f h9 =>
        rw [if_neg]
        rintro ⟨h | h, -⟩
        · exact hof n f (by rw [h9, h.1])
        · exact absurd h.1 (by decide)
      · rfl
    exact ev_stop hc rfl rfl this rfl rfl rfl rfl
theorem ev_lald {a : Nat} {x : Int32} (hc : xi_code mi pc = some (.laload, 1)) : ev xs L mi pc ll (.int x :: .ref a :: st) hp = kL (hp.1 a) x (fun v => ev xs L mi (pc + 1) ll (.long v :: st) hp) := by
  have hh : xi_heap xs L mi .laload (.int x :: .ref a :: st) hp = match hp.1 a with
      | .inl (3, n, .inr (.inl f)) => if xi_in x n = true then some (.long (f x.toNatClampNeg) :: st, hp) else none
      | _ => none := rfl
  unfold kL
  split
  · next n f hof =>
    rw [hof] at hh
    by_cases h1 : xi_in x n = true
    · rw [if_pos h1]
      simp only [h1, if_true] at hh
      exact ev_heap hc rfl rfl rfl hh
    · rw [if_neg h1]
      exact ev_stop hc rfl rfl (hh.trans (by simp [h1])) rfl rfl rfl rfl
  · next hof =>
    have : xi_heap xs L mi .laload (.int x :: .ref a :: st) hp = none := by
      rw [hh]
      split
      · next n f h9 => exact absurd h9 (hof n f)
      · rfl
    exact ev_stop hc rfl rfl this rfl rfl rfl rfl
theorem ev_last {a : Nat} {x : Int32} {v : Int64} (hc : xi_code mi pc = some (.lastore, 1)) : ev xs L mi pc ll (.long v :: .int x :: .ref a :: st) hp = kLs (hp.1 a) x v (fun o => ev xs L mi (pc + 1) ll st (xi_set hp.1 a o, hp.2)) := by
  have hh : xi_heap xs L mi .lastore (.long v :: .int x :: .ref a :: st) hp = match hp.1 a with
      | .inl (3, n, .inr (.inl f)) => if xi_in x n = true then some (st, xi_set hp.1 a (.inl (3, n, .inr (.inl (vp_updL f x.toNatClampNeg v)))), hp.2) else none
      | _ => none := rfl
  unfold kLs
  split
  · next n f hof =>
    rw [hof] at hh
    by_cases h1 : xi_in x n = true
    · rw [if_pos h1]
      simp only [h1, if_true] at hh
      exact ev_heap hc rfl rfl rfl hh
    · rw [if_neg h1]
      exact ev_stop hc rfl rfl (hh.trans (by simp [h1])) rfl rfl rfl rfl
  · next hof =>
    have : xi_heap xs L mi .lastore (.long v :: .int x :: .ref a :: st) hp = none := by
      rw [hh]
      split
      · next n f h9 => exact absurd h9 (hof n f)
      · rfl
    exact ev_stop hc rfl rfl this rfl rfl rfl rfl
theorem ev_aald {a : Nat} {x : Int32} (hc : xi_code mi pc = some (.aaload, 1)) : ev xs L mi pc ll (.int x :: .ref a :: st) hp = kA (hp.1 a) x (fun r => ev xs L mi (pc + 1) ll (.ref r :: st) hp) := by
  have hh : xi_heap xs L mi .aaload (.int x :: .ref a :: st) hp = match hp.1 a with
      | .inl (4, n, .inr (.inr (.inr (.inr f)))) => if xi_in x n = true then match f x.toNatClampNeg with
          | some r => some (.ref r :: st, hp)
          | none => none
        else none
      | _ => none := rfl
  unfold kA
  split
  · next n f hof =>
    rw [hof] at hh
    by_cases h1 : xi_in x n = true
    · rw [if_pos h1]
      simp only [h1, if_true] at hh
      split
      · next r hr =>
        rw [hr] at hh
        exact ev_heap hc rfl rfl rfl hh
      · next hr =>
        rw [hr] at hh
        exact ev_stop hc rfl rfl hh rfl rfl rfl rfl
    · rw [if_neg h1]
      exact ev_stop hc rfl rfl (hh.trans (by simp [h1])) rfl rfl rfl rfl
  · next hof =>
    have : xi_heap xs L mi .aaload (.int x :: .ref a :: st) hp = none := by
      rw [hh]
      split
      · next n f h9 => exact absurd h9 (hof n f)
      · rfl
    exact ev_stop hc rfl rfl this rfl rfl rfl rfl
theorem ev_ret {r : Option Value} (hc : xi_code mi pc = some (i, len)) (hl : len = xi_len i) (hb : xi_br i pc st = none) (hu : xi_pure i ll st = none) (hh : xi_heap xs L mi i st hp = none) (hr : xi_ret mi i st = some r) : ev xs L mi pc ll st hp = some (.inl r, hp) := by
  rw [ev_eq]
  unfold xi_step
  simp only [hc, hb, hu, hh, hr]
  rw [if_pos hl]
/-- a return of a number that fits -/
theorem ev_iret {v : Int32} {ty : FieldType} (hc : xi_code mi pc = some (.ireturn, 1)) (hty : (xi_m mi).2.2.2.2.2.1 = some ty) (hn : narrow ty (.int v) = .int v) : ev xs L mi pc ll [.int v] hp = some (.inl (some (.int v)), hp) := by
  refine ev_ret hc rfl rfl rfl rfl ?_
  show (match (xi_m mi).2.2.2.2.2.1 with
    | some ty => if narrow ty (Value.int v) = Value.int v then some (some (Value.int v)) else none
    | none => none) = _
  rw [hty]
  simp only [hn, if_true]
/-- a call, from a method without handlers -/
theorem ev_call {k : Nat} {as rest : List Value} (hc : xi_code mi pc = some (i, 3)) (hl : xi_len i = 3) (hb : xi_br i pc st = none) (hu : xi_pure i ll st = none) (hh : xi_heap xs L mi i st hp = none) (hr : xi_ret mi i st = none) (hca : xi_call mi i st hp = some (k, as, rest)) (ho : (xi_m mi).1 ≠ 8) : ev xs L mi pc ll st hp = kC (ev xs L k 0 (xi_loc k as) [] hp) (fun v hp' => ev xs L mi (pc + 3) ll (v.toList ++ rest) hp') := by
  rw [ev_eq]
  unfold xi_step
  simp only [hc, hb, hu, hh, hr, hca]
  rw [if_pos hl.symm]
  unfold kC
  split
  · next v hp1 hx => rw [hx]
  · next X hp1 hx =>
    have : xi_catch mi pc X ll = none := by
      unfold xi_catch
      rw [if_neg (fun h => ho h.1)]
    rw [hx, this]
  · next hx => rw [hx]
theorem ev_callV {k idx c r : Nat} {as rest : List Value} (hc : xi_code mi pc = some (.invokevirtual idx, 3)) (hm : xi_mth (xi_m mi).1 idx = some (k, 0)) (hn : xi_na k = as.length) (hk : (xi_m k).1 = c) (h10 : c ≠ 10) (hg : xi_gd mi k (.ref r :: as) rest = true) (ho : (xi_m mi).1 ≠ 8) (hst : st = as.reverse ++ .ref r :: rest) (hb : xi_br (.invokevirtual idx) pc st = none) (hu : xi_pure (.invokevirtual idx) ll st = none) (hr : xi_ret mi (.invokevirtual idx) st = none) (hs : xi_str mi (.invokevirtual idx) st hp = none) : ev xs L mi pc ll st hp = kV (hp.1 r) c (kC (ev xs L k 0 (xi_loc k (.ref r :: as)) [] hp) (fun v hp' => ev xs L mi (pc + 3) ll (v.toList ++ rest) hp')) := by
  have hdrop : st.drop (xi_na k) = .ref r :: rest := by
    rw [hst, hn, List.drop_append, List.length_reverse, Nat.sub_self, List.drop_zero, List.drop_eq_nil_of_le (by rw [List.length_reverse]; exact Nat.le_refl _), List.nil_append]
  have htake : (st.take (xi_na k)).reverse = as := by
    rw [hst, hn, List.take_append, List.length_reverse, Nat.sub_self, List.take_zero, List.append_nil, List.take_of_length_le (by rw [List.length_reverse]; exact Nat.le_refl _), List.reverse_reverse]
  have hle : xi_na k ≤ st.length := by
    rw [hst, hn, List.length_append, List.length_reverse]
    omega
  have hca : xi_call mi (.invokevirtual idx) st hp = if xi_rcv k r hp = true then some (k, .ref r :: as, rest) else none := by
    unfold xi_call
    simp only [hm, hdrop, htake]
    by_cases h9 : xi_rcv k r hp = true
    · rw [if_pos ⟨hle, h9, hg⟩, if_pos h9]
    · rw [if_neg (fun z => h9 z.2.1), if_neg h9]
  have hrc : xi_rcv k r hp = match hp.1 r with
      | .inr (c', _) => c' == c
      | _ => false := by
    unfold xi_rcv
    rw [if_neg (by rw [hk]; exact h10), hk]
    rfl
  unfold kV
  split
  · next c' fs hof =>
    rw [hof] at hrc
    by_cases h1 : c' = c
    · rw [if_pos h1]
      have h9 : xi_rcv k r hp = true := by rw [hrc]; exact beq_iff_eq.mpr h1
      rw [if_pos h9] at hca
      exact ev_call hc rfl hb hu rfl hr hca ho
    · rw [if_neg h1]
      have h9 : ¬ xi_rcv k r hp = true := by rw [hrc]; intro z; exact h1 (beq_iff_eq.mp z)
      rw [if_neg h9] at hca
      exact ev_stop hc hb hu rfl hr hca hs rfl
  · next hof =>
    have h9 : ¬ xi_rcv k r hp = true := by
      rw [hrc]
      split
      · next c' fs h8 => exact absurd h8 (hof c' fs)
      · intro z; cases z
    rw [if_neg h9] at hca
    exact ev_stop hc hb hu rfl hr hca hs rfl
theorem ev_callS {k kd idx : Nat} {as rest : List Value} (hc : xi_code mi pc = some (.invokestatic idx, 3)) (hm : xi_mth (xi_m mi).1 idx = some (k, kd)) (hkd : kd = 1 ∨ kd = 3 ∨ kd = 4) (hpm : xi_prm (xi_m mi).1 idx = none) (hn : xi_na k = as.length) (hg : xi_gd mi k as rest = true) (ho : (xi_m mi).1 ≠ 8) (hst : st = as.reverse ++ rest) (hb : xi_br (.invokestatic idx) pc st = none) (hu : xi_pure (.invokestatic idx) ll st = none) (hr : xi_ret mi (.invokestatic idx) st = none) : ev xs L mi pc ll st hp = kC (ev xs L k 0 (xi_loc k as) [] hp) (fun v hp' => ev xs L mi (pc + 3) ll (v.toList ++ rest) hp') := by
  have hdrop : st.drop (xi_na k) = rest := by
    rw [hst, hn, List.drop_append, List.length_reverse, Nat.sub_self, List.drop_zero, List.drop_eq_nil_of_le (by rw [List.length_reverse]; exact Nat.le_refl _), List.nil_append]
  have htake : (st.take (xi_na k)).reverse = as := by
    rw [hst, hn, List.take_append, List.length_reverse, Nat.sub_self, List.take_zero, List.append_nil, List.take_of_length_le (by rw [List.length_reverse]; exact Nat.le_refl _), List.reverse_reverse]
  have hle : xi_na k ≤ st.length := by
    rw [hst, hn, List.length_append, List.length_reverse]
    omega
  have hca : xi_call mi (.invokestatic idx) st hp = some (k, as, rest) := by
    unfold xi_call
    rcases hkd with rfl | rfl | rfl <;> simp only [hm, hdrop, htake] <;> rw [if_pos ⟨hle, hg⟩]
  have hhe : xi_heap xs L mi (.invokestatic idx) st hp = none := by
    show (if 1 ≤ xi_fr mi ∧ 38 ≤ xi_lo mi then (match xi_prm (xi_m mi).1 idx with
      | some 5 => xi_p5 st hp
      | some 9 => xi_p9 st hp
      | some 10 => xi_p10 st hp
      | _ => none) else none) = none
    rw [hpm]
    split <;> rfl
  exact ev_call hc rfl hb hu hhe hr hca ho
end XOP
section XOQ
variable {xs : Nat → Int32} {L : Nat} {mi pc len : Nat} {i : Instr} {ll st ll' st' : List Value} {hp hp' : xi_H}
theorem xi_gd_of {mi k n : Nat} {as rest : List Value} (h1 : xi_low rest = true) (h2 : as.all xi_c1 = true) (hn : as.length = n) (h3 : (decide (n ≤ xi_maxL k) && decide (xi_fr k + 1 ≤ xi_fr mi) && decide (8 + (xi_maxL k + 11) + xi_lo k ≤ xi_lo mi)) = true) : xi_gd mi k as rest = true := by
  simp only [Bool.and_eq_true, decide_eq_true_eq] at h3
  simp only [xi_gd, Bool.and_eq_true, decide_eq_true_eq]
  rw [hn]
  exact ⟨⟨⟨⟨h1, h2⟩, h3.1.1⟩, h3.1.2⟩, h3.2⟩
theorem xi_loc_of {k m : Nat} {as l : List Value} (hm : xi_maxL k = m) (h : as ++ List.replicate (m - as.length) .null = l) : xi_loc k as = l := by
  unfold xi_loc
  rw [hm]
  exact h
def kBn (o : xi_O) (i : Int32) (κ : Int32 → Option xi_R) : Option xi_R := kB o i κ none
theorem ev_bald {a : Nat} {x : Int32} (hc : xi_code mi pc = some (.baload, 1)) (ha : 100 ≤ a) : ev xs L mi pc ll (.int x :: .ref a :: st) hp = kBn (hp.1 a) x (fun v => ev xs L mi (pc + 1) ll (.int v :: st) hp) := by
  have hs : xi_str mi .baload (.int x :: .ref a :: st) hp = none := by
    show (if xi_rg 11 16 a = true ∧ xi_in x (xi_sb.getD (a - 11) []).length = true then _ else none) = none
    rw [if_neg (fun h => by have := xi_rg_of h.1; omega)]
  have hh : xi_heap xs L mi .baload (.int x :: .ref a :: st) hp = match hp.1 a with
      | .inl (t0, n, .inl f) => if (t0 = 1 ∨ (1 = 1 ∧ t0 = 2)) ∧ xi_in x n = true then some (.int (f x.toNatClampNeg) :: st, hp) else none
      | _ => none := by
    show xi_ald 1 xs L (.int x :: .ref a :: st) hp = _
    unfold xi_ald
    simp only [if_neg (show ¬ a = 0 by omega)]
    rfl
  unfold kBn kB
  split
  · next n f hof =>
    rw [hof] at hh
    by_cases h1 : xi_in x n = true
    · rw [if_pos h1]
      simp only [h1, and_true, true_or, if_true] at hh
      exact ev_heap hc rfl rfl rfl hh
    · rw [if_neg h1]
      exact ev_stop hc rfl rfl (hh.trans (by simp [h1])) rfl rfl hs rfl
  · next n f hof =>
    rw [hof] at hh
    by_cases h1 : xi_in x n = true
    · rw [if_pos h1]
      simp only [h1, and_true, or_true, if_true] at hh
      exact ev_heap hc rfl rfl rfl hh
    · rw [if_neg h1]
      exact ev_stop hc rfl rfl (hh.trans (by simp [h1])) rfl rfl hs rfl
  · next hof1 hof2 =>
    have : xi_heap xs L mi .baload (.int x :: .ref a :: st) hp = none := by
      rw [hh]
      split
      · next t0 n f h9 =>
        rw [if_neg]
        rintro ⟨h | h, -⟩
        · exact hof1 n f (by rw [h9, h])
        · exact hof2 n f (by rw [h9, h.2])
      · rfl
    exact ev_stop hc rfl rfl this rfl rfl hs rfl
theorem ev_bast {a : Nat} {x v : Int32} (hc : xi_code mi pc = some (.bastore, 1)) : ev xs L mi pc ll (.int v :: .int x :: .ref a :: st) hp = kBs (hp.1 a) x v (fun o => ev xs L mi (pc + 1) ll st (xi_set hp.1 a o, hp.2)) := by
  have hh : xi_heap xs L mi .bastore (.int v :: .int x :: .ref a :: st) hp = match hp.1 a with
      | .inl (t0, n, .inl f) => if ((t0 = 0 ∧ 1 = 0) ∨ (1 = 1 ∧ (t0 = 1 ∨ t0 = 2))) ∧ xi_in x n = true then some (st, xi_set hp.1 a (.inl (t0, n, .inl (upd f x.toNatClampNeg (xi_nar t0 v)))), hp.2) else none
      | _ => none := rfl
  unfold kBs
  split
  · next n f hof =>
    rw [hof] at hh
    by_cases h1 : xi_in x n = true
    · rw [if_pos h1]
      have : xi_heap xs L mi .bastore (.int v :: .int x :: .ref a :: st) hp = some (st, xi_set hp.1 a (.inl (1, n, .inl (upd f x.toNatClampNeg (vp_nar .byte v)))), hp.2) := hh.trans (by simp [h1, xi_nar])
      exact ev_heap hc rfl rfl rfl this
    · rw [if_neg h1]
      exact ev_stop hc rfl rfl (hh.trans (by simp [h1])) rfl rfl rfl rfl
  · next n f hof =>
    rw [hof] at hh
    by_cases h1 : xi_in x n = true
    · rw [if_pos h1]
      have : xi_heap xs L mi .bastore (.int v :: .int x :: .ref a :: st) hp = some (st, xi_set hp.1 a (.inl (2, n, .inl (upd f x.toNatClampNeg (vp_nar .boolean v)))), hp.2) := hh.trans (by simp [h1, xi_nar])
      exact ev_heap hc rfl rfl rfl this
    · rw [if_neg h1]
      exact ev_stop hc rfl rfl (hh.trans (by simp [h1])) rfl rfl rfl rfl
  · next hof1 hof2 =>
    have : xi_heap xs L mi .bastore (.int v :: .int x :: .ref a :: st) hp = none := by
      rw [hh]
      split
      · next t0 n f h9 =>
        rw [if_neg]
        rintro ⟨h | h, -⟩
        · exact absurd h.2 (by decide)
        · rcases h.2 with h | h
          · exact hof1 n f (by rw [h9, h])
          · exact hof2 n f (by rw [h9, h])
      · rfl
    exact ev_stop hc rfl rfl this rfl rfl rfl rfl
theorem ev_copy {idx a0 a1 : Nat} {sp dp n : Int32} {rest : List Value} (hc : xi_code mi pc = some (.invokestatic idx, 3)) (hpm : xi_prm (xi_m mi).1 idx = some 5) (hm : xi_mth (xi_m mi).1 idx = none) (hf : 1 ≤ xi_fr mi ∧ 38 ≤ xi_lo mi) (hlow : xi_low rest = true) : ev xs L mi pc ll (.int n :: .int dp :: .ref a1 :: .int sp :: .ref a0 :: rest) hp = kY (hp.1 a0) (hp.1 a1) sp dp n (fun o => ev xs L mi (pc + 3) ll rest (xi_set hp.1 a1 o, hp.2)) := by
  have hca : xi_call mi (.invokestatic idx) (.int n :: .int dp :: .ref a1 :: .int sp :: .ref a0 :: rest) hp = none := by
    show (match xi_mth (xi_m mi).1 idx with
      | some (k, 1) => _
      | some (k, 3) => _
      | some (k, 4) => _
      | _ => none) = none
    rw [hm]
  have hh : xi_heap xs L mi (.invokestatic idx) (.int n :: .int dp :: .ref a1 :: .int sp :: .ref a0 :: rest) hp = xi_p5 (.int n :: .int dp :: .ref a1 :: .int sp :: .ref a0 :: rest) hp := by
    show (if 1 ≤ xi_fr mi ∧ 38 ≤ xi_lo mi then (match xi_prm (xi_m mi).1 idx with
      | some 5 => xi_p5 _ hp
      | some 9 => xi_p9 _ hp
      | some 10 => xi_p10 _ hp
      | _ => none) else none) = _
    rw [if_pos hf, hpm]
    rfl
  have hp5 : xi_p5 (.int n :: .int dp :: .ref a1 :: .int sp :: .ref a0 :: rest) hp = if 0 ≤ sp ∧ 0 ≤ dp ∧ 0 ≤ n then (match hp.1 a0, hp.1 a1 with
      | .inl (0, n0, .inl f), .inl (0, n1, .inl g) => if sp.toNatClampNeg + n.toNatClampNeg ≤ n0 ∧ dp.toNatClampNeg + n.toNatClampNeg ≤ n1 then some (rest, xi_set hp.1 a1 (.inl (0, n1, .inl (va_cpy f g sp.toNatClampNeg dp.toNatClampNeg n.toNatClampNeg))), hp.2) else none
      | .inl (3, n0, .inr (.inl f)), .inl (3, n1, .inr (.inl g)) => if sp.toNatClampNeg + n.toNatClampNeg ≤ n0 ∧ dp.toNatClampNeg + n.toNatClampNeg ≤ n1 then some (rest, xi_set hp.1 a1 (.inl (3, n1, .inr (.inl (va_cpy f g sp.toNatClampNeg dp.toNatClampNeg n.toNatClampNeg)))), hp.2) else none
      | _, _ => none) else none := by
    show (if xi_low rest = true ∧ 0 ≤ sp ∧ 0 ≤ dp ∧ 0 ≤ n then _ else none) = _
    by_cases h : 0 ≤ sp ∧ 0 ≤ dp ∧ 0 ≤ n
    · rw [if_pos ⟨hlow, h⟩, if_pos h]
      rfl
    · rw [if_neg (fun z => h z.2), if_neg h]
  have hstop : xi_heap xs L mi (.invokestatic idx) (.int n :: .int dp :: .ref a1 :: .int sp :: .ref a0 :: rest) hp = none → ev xs L mi pc ll (.int n :: .int dp :: .ref a1 :: .int sp :: .ref a0 :: rest) hp = none := fun h => ev_stop hc rfl rfl h rfl hca (by
    show (if xi_prm (xi_m mi).1 idx = some 7 ∧ _ then _ else none) = none
    rw [if_neg (fun z => by rw [hpm] at z; cases z.1)]) rfl
  rw [hp5] at hh
  unfold kY
  split
  · next n0 f n1 g o0 o1 =>
    rw [o0, o1] at hh
    by_cases h1 : (0 ≤ sp ∧ 0 ≤ dp ∧ 0 ≤ n) ∧ sp.toNatClampNeg + n.toNatClampNeg ≤ n0 ∧ dp.toNatClampNeg + n.toNatClampNeg ≤ n1
    · rw [if_pos h1]
      rw [if_pos h1.1] at hh
      simp only [if_pos h1.2] at hh
      exact ev_heap hc rfl rfl rfl hh
    · rw [if_neg h1]
      refine hstop (hh.trans ?_)
      by_cases h2 : 0 ≤ sp ∧ 0 ≤ dp ∧ 0 ≤ n
      · rw [if_pos h2]
        simp only [if_neg (fun z => h1 ⟨h2, z⟩)]
      · rw [if_neg h2]
  · next n0 f n1 g o0 o1 =>
    rw [o0, o1] at hh
    by_cases h1 : (0 ≤ sp ∧ 0 ≤ dp ∧ 0 ≤ n) ∧ sp.toNatClampNeg + n.toNatClampNeg ≤ n0 ∧ dp.toNatClampNeg + n.toNatClampNeg ≤ n1
    · rw [if_pos h1]
      rw [if_pos h1.1] at hh
      simp only [if_pos h1.2] at hh
      exact ev_heap hc rfl rfl rfl hh
    · rw [if_neg h1]
      refine hstop (hh.trans ?_)
      by_cases h2 : 0 ≤ sp ∧ 0 ≤ dp ∧ 0 ≤ n
      · rw [if_pos h2]
        simp only [if_neg (fun z => h1 ⟨h2, z⟩)]
      · rw [if_neg h2]
  · next hn1 hn2 =>
    refine hstop (hh.trans ?_)
    split
    · split
      · next n0 f n1 g o0 o1 => exact absurd o1 (hn1 n0 f n1 g o0)
      · next n0 f n1 g o0 o1 => exact absurd o1 (hn2 n0 f n1 g o0)
      · rfl
    · rfl
theorem ev_max {idx : Nat} {x y : Int32} {rest : List Value} (hc : xi_code mi pc = some (.invokestatic idx, 3)) (hpm : xi_prm (xi_m mi).1 idx = some 9) (hf : 1 ≤ xi_fr mi ∧ 38 ≤ xi_lo mi) (hlow : xi_low rest = true) : ev xs L mi pc ll (.int y :: .int x :: rest) hp = ev xs L mi (pc + 3) ll (.int (if x < y then y else x) :: rest) hp := by
  refine ev_heap hc rfl rfl rfl ?_
  show (if 1 ≤ xi_fr mi ∧ 38 ≤ xi_lo mi then (match xi_prm (xi_m mi).1 idx with
      | some 5 => xi_p5 _ hp
      | some 9 => xi_p9 _ hp
      | some 10 => xi_p10 _ hp
      | _ => none) else none) = _
  rw [if_pos hf, hpm]
  show (if xi_low rest = true then _ else none) = _
  rw [if_pos hlow]
theorem ev_min {idx : Nat} {x y : Int32} {rest : List Value} (hc : xi_code mi pc = some (.invokestatic idx, 3)) (hpm : xi_prm (xi_m mi).1 idx = some 10) (hf : 1 ≤ xi_fr mi ∧ 38 ≤ xi_lo mi) (hlow : xi_low rest = true) : ev xs L mi pc ll (.int y :: .int x :: rest) hp = ev xs L mi (pc + 3) ll (.int (if y < x then y else x) :: rest) hp := by
  refine ev_heap hc rfl rfl rfl ?_
  show (if 1 ≤ xi_fr mi ∧ 38 ≤ xi_lo mi then (match xi_prm (xi_m mi).1 idx with
      | some 5 => xi_p5 _ hp
      | some 9 => xi_p9 _ hp
      | some 10 => xi_p10 _ hp
      | _ => none) else none) = _
  rw [if_pos hf, hpm]
  show (if xi_low rest = true then _ else none) = _
  rw [if_pos hlow]
theorem ev_thr {ik : Nat} {X : String} (hc : xi_code mi pc = some (.new ik, 3)) (hn : xi_new (xi_m mi).1 ik = none) (ht : xi_thr mi pc (.new ik) st = some X) (hb : xi_br (.new ik) pc st = none) (hu : xi_pure (.new ik) ll st = none) (hr : xi_ret mi (.new ik) st = none) (hs : xi_str mi (.new ik) st hp = none) : ev xs L mi pc ll st hp = some (.inr X, hp.1, hp.2.1, hp.2.2.1 + 1, hp.2.2.2 + 6) := by
  have hh : xi_heap xs L mi (.new ik) st hp = none := by
    show xi_newo (xi_m mi).1 ik st hp = none
    unfold xi_newo
    rw [hn]
  rw [ev_eq]
  unfold xi_step
  simp only [hc, hb, hu, hh, hr, hs, ht]
  rfl
theorem ev_objinit {idx a : Nat} {rest : List Value} (hc : xi_code mi pc = some (.invokespecial idx, 3)) (hpm : xi_prm (xi_m mi).1 idx = some 6) (hf : 1 ≤ xi_fr mi ∧ 21 ≤ xi_lo mi) (hlow : xi_low rest = true) : ev xs L mi pc ll (.ref a :: rest) hp = ev xs L mi (pc + 3) ll rest hp := by
  refine ev_heap hc rfl rfl rfl ?_
  show (if 1 ≤ xi_fr mi ∧ 21 ≤ xi_lo mi then (match xi_prm (xi_m mi).1 idx with
      | some 6 => xi_p6 _ hp
      | _ => none) else none) = _
  rw [if_pos hf, hpm]
  show (if xi_low rest = true then _ else none) = _
  rw [if_pos hlow]
end XOQ
section XOI
variable {xs : Nat → Int32} {L : Nat} {mi pc len : Nat} {i : Instr} {ll st ll' st' : List Value} {hp hp' : xi_H}
/-- no value of two words -/
def xi_nlg : Value → Bool
  | .long _ => false
  | .double _ => false
  | _ => true
theorem ev_callI {k idx c r : Nat} {as rest : List Value} (hc : xi_code mi pc = some (.invokespecial idx, 3)) (hm : xi_mth (xi_m mi).1 idx = some (k, 2)) (hpm : xi_prm (xi_m mi).1 idx = none) (hn : xi_na k = as.length) (hk : (xi_m k).1 = c) (h10 : c ≠ 10) (hg : xi_gd mi k (.ref r :: as) rest = true) (ho : (xi_m mi).1 ≠ 8) (hst : st = as.reverse ++ .ref r :: rest) (hb : xi_br (.invokespecial idx) pc st = none) (hu : xi_pure (.invokespecial idx) ll st = none) (hr : xi_ret mi (.invokespecial idx) st = none) (hs : xi_str mi (.invokespecial idx) st hp = none) : ev xs L mi pc ll st hp = kV (hp.1 r) c (kC (ev xs L k 0 (xi_loc k (.ref r :: as)) [] hp) (fun v hp' => ev xs L mi (pc + 3) ll (v.toList ++ rest) hp')) := by
  have hdrop : st.drop (xi_na k) = .ref r :: rest := by
    rw [hst, hn, List.drop_append, List.length_reverse, Nat.sub_self, List.drop_zero, List.drop_eq_nil_of_le (by rw [List.length_reverse]; exact Nat.le_refl _), List.nil_append]
  have htake : (st.take (xi_na k)).reverse = as := by
    rw [hst, hn, List.take_append, List.length_reverse, Nat.sub_self, List.take_zero, List.append_nil, List.take_of_length_le (by rw [List.length_reverse]; exact Nat.le_refl _), List.reverse_reverse]
  have hle : xi_na k ≤ st.length := by
    rw [hst, hn, List.length_append, List.length_reverse]
    omega
  have hhe : xi_heap xs L mi (.invokespecial idx) st hp = none := by
    show (if 1 ≤ xi_fr mi ∧ 21 ≤ xi_lo mi then (match xi_prm (xi_m mi).1 idx with
      | some 6 => xi_p6 st hp
      | _ => none) else none) = none
    rw [hpm]
    split <;> rfl
  have hca : xi_call mi (.invokespecial idx) st hp = if xi_rcv k r hp = true then some (k, .ref r :: as, rest) else none := by
    unfold xi_call
    simp only [hm, hdrop, htake]
    by_cases h9 : xi_rcv k r hp = true
    · rw [if_pos ⟨hle, h9, hg⟩, if_pos h9]
    · rw [if_neg (fun z => h9 z.2.1), if_neg h9]
  have hrc : xi_rcv k r hp = match hp.1 r with
      | .inr (c', _) => c' == c
      | _ => false := by
    unfold xi_rcv
    rw [if_neg (by rw [hk]; exact h10), hk]
    rfl
  unfold kV
  split
  · next c' fs hof =>
    rw [hof] at hrc
    by_cases h1 : c' = c
    · rw [if_pos h1]
      have h9 : xi_rcv k r hp = true := by rw [hrc]; exact beq_iff_eq.mpr h1
      rw [if_pos h9] at hca
      exact ev_call hc rfl hb hu hhe hr hca ho
    · rw [if_neg h1]
      have h9 : ¬ xi_rcv k r hp = true := by rw [hrc]; intro z; exact h1 (beq_iff_eq.mp z)
      rw [if_neg h9] at hca
      exact ev_stop hc hb hu hhe hr hca hs rfl
  · next hof =>
    have h9 : ¬ xi_rcv k r hp = true := by
      rw [hrc]
      split
      · next c' fs h8 => exact absurd h8 (hof c' fs)
      · intro z; cases z
    rw [if_neg h9] at hca
    exact ev_stop hc hb hu hhe hr hca hs rfl
end XOI
