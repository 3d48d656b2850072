/-! A small machine over logical values: what a run of it says is carried over to the Jvm once and for all. -/
abbrev xi_O : Type := (Nat × vp_A) ⊕ (Nat × List Value)
/-- where things lie: the script's address, the first new cell's, the literals' -/
abbrev xi_E : Type := Nat × Nat × (Nat → Nat)
def xi_ad (E : xi_E) (i : Nat) : Nat := if i = 0 then E.1 else if i < 100 then E.2.2 i else E.2.1 + (i - 100)
def xi_v (E : xi_E) : Value → Value
  | .ref i => .ref (xi_ad E i)
  | v => v
theorem xi_v_int (E : xi_E) (x : Int32) : xi_v E (.int x) = .int x := rfl
theorem xi_v_long (E : xi_E) (x : Int64) : xi_v E (.long x) = .long x := rfl
theorem xi_v_ref (E : xi_E) (i : Nat) : xi_v E (.ref i) = .ref (xi_ad E i) := rfl
theorem xi_v_null (E : xi_E) : xi_v E .null = .null := rfl
theorem xi_v_cat (E : xi_E) (v : Value) : (xi_v E v).category = v.category := by cases v <;> rfl
theorem xi_v_nn (E : xi_E) {v : Value} (h : v ≠ .null) : xi_v E v ≠ .null := by cases v <;> simp [xi_v] at *
/-- the locals that are known -/
def xi_L (E : xi_E) (ll : List Value) (ls : Array Slot) (nL : Nat) : Prop := ls.size = nL ∧ lv_wf ls ∧ ll.length = nL ∧ ∀ (i : Nat) (v : Value), ll[i]? = some v → v ≠ .null → ls[i]? = some (.val (xi_v E v))
def xi_lof (E : xi_E) (ll : List Value) : List (Nat × Value) := (List.range ll.length).filterMap fun i => match ll[i]? with
  | some v => if v = Value.null then none else some (i, xi_v E v)
  | none => none
theorem xi_lof_mem {E : xi_E} {ll : List Value} {q : Nat × Value} : q ∈ xi_lof E ll ↔ ∃ v, ll[q.1]? = some v ∧ v ≠ .null ∧ q.2 = xi_v E v := by
  unfold xi_lof
  rw [List.mem_filterMap]
  constructor
  · rintro ⟨i, hi, h⟩
    split at h
    · next v hv =>
      split at h
      · cases h
      · next hn =>
        cases h
        exact ⟨v, hv, hn, rfl⟩
    · cases h
  · rintro ⟨v, hv, hn, h2⟩
    refine ⟨q.1, List.mem_range.mpr (List.getElem?_eq_some_iff.mp hv).1, ?_⟩
    rw [hv]
    show (if v = Value.null then none else some (q.1, xi_v E v)) = some q
    rw [if_neg hn, ← h2]
theorem xi_L_has {E : xi_E} {ll : List Value} {ls : Array Slot} {nL : Nat} (h : xi_L E ll ls nL) : lv_has ls nL (xi_lof E ll) := by
  obtain ⟨h1, h2, h3, h4⟩ := h
  refine ⟨h1, h2, fun q hq => ?_⟩
  obtain ⟨v, a, b, c⟩ := xi_lof_mem.mp hq
  rw [c]
  exact h4 _ _ a b
/-- a store of one word: no word of two may stand just below it -/
def xi_s1 (ll : List Value) (i : Nat) : Bool := decide (i < ll.length) && (match i with
  | 0 => true
  | j + 1 => match ll[j]? with
    | some (.long _) => false
    | some (.double _) => false
    | _ => true)
theorem xi_s1_ok {E : xi_E} {ll : List Value} {ls ls' : Array Slot} {nL i : Nat} {v : Value} (hL : xi_L E ll ls nL) (hs : xi_s1 ll i = true) (h : lv_has ls' nL ((i, xi_v E v) :: (xi_lof E ll).filter (fun q => !(q.1 == i) && !(q.1 + 1 == i && q.2.category == 2)))) : xi_L E (ll.set i v) ls' nL := by
  obtain ⟨h1, h2, h3⟩ := h
  refine ⟨h1, h2, by rw [List.length_set]; exact hL.2.2.1, fun j w hj hw => ?_⟩
  simp only [xi_s1, Bool.and_eq_true, decide_eq_true_eq] at hs
  by_cases hji : j = i
  · subst hji
    rw [List.getElem?_set_self hs.1] at hj
    cases hj
    exact h3 (j, xi_v E v) List.mem_cons_self
  · rw [List.getElem?_set_ne (fun z => hji z.symm)] at hj
    refine h3 (j, xi_v E w) (List.mem_cons_of_mem _ (List.mem_filter.mpr ⟨xi_lof_mem.mpr ⟨w, hj, hw, rfl⟩, ?_⟩))
    simp only [Bool.and_eq_true, Bool.not_eq_true', beq_eq_false_iff_ne, ne_eq, Bool.and_eq_false_iff]
    refine ⟨hji, ?_⟩
    by_cases hj1 : j + 1 = i
    · right
      subst hj1
      have h9 := hs.2
      simp only [hj] at h9
      rw [xi_v_cat]
      cases w <;> simp_all [Value.category]
    · exact Or.inl hj1
def xi_s2 (ll : List Value) (i : Nat) : Bool := decide (i + 1 < ll.length) && (match i with
  | 0 => true
  | j + 1 => match ll[j]? with
    | some (.long _) => false
    | some (.double _) => false
    | _ => true)
theorem xi_s2_ok {E : xi_E} {ll : List Value} {ls ls' : Array Slot} {nL i : Nat} {v : Value} (hL : xi_L E ll ls nL) (hs : xi_s2 ll i = true) (h : lv_has ls' nL ((i, xi_v E v) :: (xi_lof E ll).filter (fun q => !(q.1 == i) && (!(q.1 == i + 1) && !(q.1 + 1 == i && q.2.category == 2))))) : xi_L E ((ll.set i v).set (i + 1) .null) ls' nL := by
  obtain ⟨h1, h2, h3⟩ := h
  refine ⟨h1, h2, by rw [List.length_set, List.length_set]; exact hL.2.2.1, fun j w hj hw => ?_⟩
  simp only [xi_s2, Bool.and_eq_true, decide_eq_true_eq] at hs
  by_cases hj2 : j = i + 1
  · subst hj2
    rw [List.getElem?_set_self (by rw [List.length_set]; exact hs.1)] at hj
    cases hj
    exact absurd rfl hw
  rw [List.getElem?_set_ne (fun z => hj2 z.symm)] at hj
  by_cases hji : j = i
  · subst hji
    rw [List.getElem?_set_self (by omega)] at hj
    cases hj
    exact h3 (j, xi_v E v) List.mem_cons_self
  · rw [List.getElem?_set_ne (fun z => hji z.symm)] at hj
    refine h3 (j, xi_v E w) (List.mem_cons_of_mem _ (List.mem_filter.mpr ⟨xi_lof_mem.mpr ⟨w, hj, hw, rfl⟩, ?_⟩))
    simp only [Bool.and_eq_true, Bool.not_eq_true', beq_eq_false_iff_ne, ne_eq, Bool.and_eq_false_iff]
    refine ⟨hji, hj2, ?_⟩
    by_cases hj1 : j + 1 = i
    · right
      subst hj1
      have h9 := hs.2
      simp only [hj] at h9
      rw [xi_v_cat]
      cases w <;> simp_all [Value.category]
    · exact Or.inl hj1
/-- how long an instruction is (a switch is asked elsewhere) -/
def xi_len : Instr → Nat
  | .bipush _ | .iload _ | .istore _ | .aload _ | .astore _ | .lload _ | .lstore _ | .ldc _ | .newarray _ => 2
  | .sipush _ | .iinc _ _ | .ifCond _ _ | .if_icmp _ _ | .goto _ | .getfield _ | .putfield _ | .getstatic _ | .invokevirtual _ | .invokespecial _ | .invokestatic _ | .new _ | .anewarray _ | .ldc_w _ => 3
  | _ => 1
def xi_c1 : Value → Bool
  | .int _ => true
  | .ref _ => true
  | _ => false
/-- what touches neither the heap nor the course -/
def xi_pure : Instr → List Value → List Value → Option (List Value × List Value)
  | .iconst n, ll, st => some (ll, .int (Int32.ofInt n) :: st)
  | .bipush n, ll, st => some (ll, .int (Int8.ofInt n).toInt32 :: st)
  | .sipush n, ll, st => some (ll, .int (Int16.ofInt n).toInt32 :: st)
  | .lconst n, ll, st => some (ll, .long (Int64.ofNat (n : Nat)) :: st)
  | .iload_n k, ll, st => match ll[(k : Nat)]? with
    | some (.int x) => some (ll, .int x :: st)
    | _ => none
  | .iload k, ll, st => match ll[k]? with
    | some (.int x) => some (ll, .int x :: st)
    | _ => none
  | .aload_n k, ll, st => match ll[(k : Nat)]? with
    | some (.ref x) => some (ll, .ref x :: st)
    | _ => none
  | .aload k, ll, st => match ll[k]? with
    | some (.ref x) => some (ll, .ref x :: st)
    | _ => none
  | .lload_n k, ll, st => match ll[(k : Nat)]? with
    | some (.long x) => some (ll, .long x :: st)
    | _ => none
  | .lload k, ll, st => match ll[k]? with
    | some (.long x) => some (ll, .long x :: st)
    | _ => none
  | .istore_n k, ll, .int x :: st => if xi_s1 ll k = true then some (ll.set k (.int x), st) else none
  | .istore k, ll, .int x :: st => if xi_s1 ll k = true then some (ll.set k (.int x), st) else none
  | .astore_n k, ll, .ref x :: st => if xi_s1 ll k = true then some (ll.set k (.ref x), st) else none
  | .astore k, ll, .ref x :: st => if xi_s1 ll k = true then some (ll.set k (.ref x), st) else none
  | .lstore_n k, ll, .long x :: st => if xi_s2 ll k = true then some ((ll.set k (.long x)).set (k + 1) .null, st) else none
  | .lstore k, ll, .long x :: st => if xi_s2 ll k = true then some ((ll.set k (.long x)).set (k + 1) .null, st) else none
  | .iinc k n, ll, st => match ll[k]? with
    | some (.int x) => if xi_s1 ll k = true then some (ll.set k (.int (x + Int32.ofInt n)), st) else none
    | _ => none
  | .iadd, ll, .int y :: .int x :: st => some (ll, .int (x + y) :: st)
  | .isub, ll, .int y :: .int x :: st => some (ll, .int (x - y) :: st)
  | .imul, ll, .int y :: .int x :: st => some (ll, .int (x * y) :: st)
  | .iand, ll, .int y :: .int x :: st => some (ll, .int (x &&& y) :: st)
  | .ior, ll, .int y :: .int x :: st => some (ll, .int (x ||| y) :: st)
  | .ixor, ll, .int y :: .int x :: st => some (ll, .int (x ^^^ y) :: st)
  | .idiv, ll, .int y :: .int x :: st => if y = 0 then none else some (ll, .int (x / y) :: st)
  | .irem, ll, .int y :: .int x :: st => if y = 0 then none else some (ll, .int (x - x / y * y) :: st)
  | .ishl, ll, .int y :: .int x :: st => some (ll, .int (x <<< (y &&& 31)) :: st)
  | .ishr, ll, .int y :: .int x :: st => some (ll, .int (x >>> (y &&& 31)) :: st)
  | .iushr, ll, .int y :: .int x :: st => some (ll, .int (x.toUInt32 >>> (y.toUInt32 &&& Int32.toUInt32 31)).toInt32 :: st)
  | .i2c, ll, .int x :: st => some (ll, .int (x.toUInt32 % 65536).toInt32 :: st)
  | .lor, ll, .long y :: .long x :: st => some (ll, .long (x ||| y) :: st)
  | .lshl, ll, .int y :: .long x :: st => some (ll, .long (x <<< (y.toInt64 &&& 63)) :: st)
  | .i2l, ll, .int x :: st => some (ll, .long x.toInt64 :: st)
  | .i2b, ll, .int x :: st => some (ll, .int x.toInt8.toInt32 :: st)
  | .lcmp, ll, .long y :: .long x :: st => some (ll, .int (lg_cmp x y) :: st)
  | .dup, ll, v :: st => if xi_c1 v = true then some (ll, v :: v :: st) else none
  | .dup2, ll, v :: w :: st => if xi_c1 v = true ∧ xi_c1 w = true then some (ll, v :: w :: v :: w :: st) else none
  | .pop, ll, v :: st => if xi_c1 v = true then some (ll, st) else none
  | _, _, _ => none
def xi_cc (c : Jvm.ClassFile.Cond) (x y : Int32) : Bool := match c with
  | .eq => decide (x = y)
  | .ne => decide (¬ x = y)
  | .lt => decide (x < y)
  | .ge => decide (y ≤ x)
  | .gt => decide (y < x)
  | .le => decide (x ≤ y)
