/-! The heap of the small machine, and what it says of the real one. -/
abbrev xi_H : Type := (Nat → xi_O) × Nat × Nat × Nat
def xi_dead : xi_O := .inr (999, [])
def xi_wf (hp : xi_H) : Prop := ∀ i, i < 100 ∨ 100 + hp.2.1 ≤ i → hp.1 i = xi_dead
def xi_set (h : Nat → xi_O) (i : Nat) (o : xi_O) : Nat → xi_O := fun j => if j = i then o else h j
def xi_o (E : xi_E) (cA : Nat → ClassId) (o : xi_O) : va_E := match o with
  | .inl (t, n, .inl f) => .inl (cA t, n, .inl f)
  | .inl (t, n, .inr (.inl f)) => .inl (cA t, n, .inr (.inl f))
  | .inl (t, n, .inr (.inr (.inl f))) => .inl (cA t, n, .inr (.inr (.inl f)))
  | .inl (t, n, .inr (.inr (.inr (.inl f)))) => .inl (cA t, n, .inr (.inr (.inr (.inl f))))
  | .inl (t, n, .inr (.inr (.inr (.inr f)))) => .inl (cA t, n, .inr (.inr (.inr (.inr (fun k => (f k).map (xi_ad E))))))
  | .inr (c, fs) => .inr (c, fs.map (xi_v E))
def xi_ws (E : xi_E) (cA : Nat → ClassId) (hp : xi_H) : va_W := (List.range hp.2.1).map fun i => (E.2.1 + i, xi_o E cA (hp.1 (100 + i)))
theorem xi_ws_get {E : xi_E} {cA : Nat → ClassId} {hp : xi_H} {i : Nat} (h : i < hp.2.1) : (xi_ws E cA hp)[i]? = some (E.2.1 + i, xi_o E cA (hp.1 (100 + i))) := by
  simp [xi_ws, List.getElem?_map, List.getElem?_range h]
theorem xi_ws_len {E : xi_E} {cA : Nat → ClassId} {hp : xi_H} : (xi_ws E cA hp).length = hp.2.1 := by simp [xi_ws]
theorem xi_ws_set {E : xi_E} {cA : Nat → ClassId} {hp : xi_H} {i : Nat} (o : xi_O) (k z : Nat) : (xi_ws E cA hp).set i (E.2.1 + i, xi_o E cA o) = xi_ws E cA (xi_set hp.1 (100 + i) o, hp.2.1, k, z) := by
  apply List.ext_getElem?
  intro j
  by_cases hj : j < hp.2.1
  · rw [xi_ws_get (hp := (xi_set hp.1 (100 + i) o, hp.2.1, k, z)) hj]
    by_cases hji : j = i
    · subst hji
      rw [List.getElem?_set_self (by rw [xi_ws_len]; exact hj)]
      simp [xi_set]
    · rw [List.getElem?_set_ne (fun q => hji q.symm), xi_ws_get hj]
      simp [xi_set, hji]
  · rw [List.getElem?_eq_none (by rw [List.length_set, xi_ws_len]; omega), List.getElem?_eq_none (by rw [xi_ws_len]; show hp.2.1 ≤ j; omega)]
theorem xi_ws_push {E : xi_E} {cA : Nat → ClassId} {hp : xi_H} (o : xi_O) (k z : Nat) : xi_ws E cA hp ++ [(E.2.1 + hp.2.1, xi_o E cA o)] = xi_ws E cA (xi_set hp.1 (100 + hp.2.1) o, hp.2.1 + 1, k, z) := by
  apply List.ext_getElem?
  intro j
  by_cases hj : j < hp.2.1
  · rw [xi_ws_get (hp := (xi_set hp.1 (100 + hp.2.1) o, hp.2.1 + 1, k, z)) (by show j < hp.2.1 + 1; omega), List.getElem?_append_left (by rw [xi_ws_len]; exact hj), xi_ws_get hj]
    have : ¬ j = hp.2.1 := by omega
    simp [xi_set, this]
  · by_cases hj2 : j = hp.2.1
    · subst hj2
      rw [xi_ws_get (hp := (xi_set hp.1 (100 + hp.2.1) o, hp.2.1 + 1, k, z)) (by show hp.2.1 < hp.2.1 + 1; omega), List.getElem?_append_right (by rw [xi_ws_len]; omega), xi_ws_len]
      simp [xi_set]
    · rw [List.getElem?_eq_none (by rw [List.length_append, xi_ws_len]; simp; omega), List.getElem?_eq_none (by rw [xi_ws_len]; show hp.2.1 + 1 ≤ j; omega)]
theorem xi_ws_D {E : xi_E} {cA : Nat → ClassId} {hp : xi_H} : va_D (fun q => E.2.1 ≤ q) (xi_ws E cA hp) := by
  have key : ∀ (i : Nat) (p : Nat × va_E), (xi_ws E cA hp)[i]? = some p → p.1 = E.2.1 + i := by
    intro i p h
    have hi : i < hp.2.1 := by
      have := (List.getElem?_eq_some_iff.mp h).1
      rwa [xi_ws_len] at this
    rw [xi_ws_get hi] at h
    cases h
    rfl
  refine ⟨fun i j p q h1 h2 h3 => ?_, fun i p h => ?_⟩
  · have a := key i p h1
    have b := key j q h2
    omega
  · have a := key i p h
    show E.2.1 ≤ p.1
    omega
/-- what the cells are, and how many -/
def xi_D (E : xi_E) (cA : Nat → ClassId) (D : va_G) (hp : xi_H) (H : Heap) : Prop := va_P D xi_cl (xi_ws E cA hp) H ∧ xi_wf hp
theorem xi_live {hp : xi_H} (hw : xi_wf hp) {i : Nat} (h : hp.1 i ≠ xi_dead) : ∃ j, i = 100 + j ∧ j < hp.2.1 := by
  refine ⟨i - 100, ?_⟩
  by_cases a : i < 100 ∨ 100 + hp.2.1 ≤ i
  · exact absurd (hw i a) h
  · omega
theorem xi_ad_new {E : xi_E} (j : Nat) : xi_ad E (100 + j) = E.2.1 + j := by
  unfold xi_ad
  rw [if_neg (by omega), if_neg (by omega)]
  omega
theorem xi_wf_set {hp : xi_H} (hw : xi_wf hp) {j : Nat} (hj : j < hp.2.1) (o : xi_O) (k z : Nat) : xi_wf (xi_set hp.1 (100 + j) o, hp.2.1, k, z) := by
  intro i hi
  show (if i = 100 + j then o else hp.1 i) = xi_dead
  rw [if_neg (by have : i < 100 ∨ 100 + hp.2.1 ≤ i := hi; omega)]
  exact hw i hi
theorem xi_wf_push {hp : xi_H} (hw : xi_wf hp) (o : xi_O) (k z : Nat) : xi_wf (xi_set hp.1 (100 + hp.2.1) o, hp.2.1 + 1, k, z) := by
  intro i hi
  have h9 : i < 100 ∨ 100 + (hp.2.1 + 1) ≤ i := hi
  show (if i = 100 + hp.2.1 then o else hp.1 i) = xi_dead
  rw [if_neg (by omega)]
  exact hw i (by omega)
def xi_tys (cA : Nat → ClassId) : List (ClassId × FieldType) := [(cA 0, .int), (cA 1, .byte), (cA 2, .boolean), (cA 3, .long), (cA 4, .object "TowerRing$Game")]
def xi_in (i : Int32) (n : Nat) : Bool := decide (0 ≤ i.toInt ∧ i.toInt < n)
theorem xi_in_vp {i : Int32} {n : Nat} (h : xi_in i n = true) : vp_in i n := vp_in_iff.mpr (by simpa [xi_in] using h)
def xi_M0 : xi_M := (99, "", "", ⟨#[]⟩, 0, none, 0, 0, 0, 0, [])
def xi_m (mi : Nat) : xi_M := (xi_md[mi]?).getD xi_M0
def xi_fr (mi : Nat) : Nat := (xi_m mi).2.2.2.2.2.2.2.1
def xi_lo (mi : Nat) : Nat := (xi_m mi).2.2.2.2.2.2.2.2.1
def xi_maxL (mi : Nat) : Nat := (xi_m mi).2.2.2.2.1
def xi_low (st : List Value) : Bool := decide ((st.map fun v => v.category).sum ≤ 8)
/-- a value that fits a field of this descriptor -/
def xi_fit (d : String) (v : Value) : Bool := match v with
  | .int _ => d == "I"
  | .ref _ => !(d == "I")
  | _ => false
def xi_getf (own idx : Nat) (st : List Value) (hp : xi_H) : Option (List Value × xi_H) := match st with
  | .ref i :: rest => match xi_fld own idx with
    | some (ci, k) => match hp.1 i with
      | .inr (c, fs) => if c = ci then match fs[k]? with
          | some v => some (v :: rest, hp)
          | none => none
        else none
      | _ => none
    | none => none
  | _ => none
def xi_putf (own : Nat) (init : Bool) (idx : Nat) (st : List Value) (hp : xi_H) : Option (List Value × xi_H) := match st with
  | v :: .ref i :: rest => match xi_fld own idx with
    | some (ci, k) => match hp.1 i with
      | .inr (c, fs) => if c = ci ∧ k < fs.length then match xi_cl[ci]? with
          | some q => if xi_fit (q.2.1 k).2.2.1 v = true ∧ ((q.2.1 k).2.2.2 = false ∨ (init = true ∧ own = ci)) then some (rest, xi_set hp.1 i (.inr (c, fs.set k v)), hp.2) else none
          | none => none
        else none
      | _ => none
    | none => none
  | _ => none
/-- ints out of an array of kind t -/
def xi_ald (t : Nat) (xs : Nat → Int32) (L : Nat) (st : List Value) (hp : xi_H) : Option (List Value × xi_H) := match st with
  | .int i :: .ref a :: rest => if a = 0 then (if t = 0 ∧ xi_in i L = true then some (.int (xs i.toNatClampNeg) :: rest, hp) else none) else match hp.1 a with
    | .inl (t0, n, .inl f) => if (t0 = t ∨ (t = 1 ∧ t0 = 2)) ∧ xi_in i n = true then some (.int (f i.toNatClampNeg) :: rest, hp) else none
    | _ => none
  | _ => none
def xi_nar (t : Nat) (x : Int32) : Int32 := match t with
  | 1 => vp_nar .byte x
  | 2 => vp_nar .boolean x
  | _ => x
def xi_ast (t : Nat) (st : List Value) (hp : xi_H) : Option (List Value × xi_H) := match st with
  | .int x :: .int i :: .ref a :: rest => match hp.1 a with
    | .inl (t0, n, .inl f) => if ((t0 = 0 ∧ t = 0) ∨ (t = 1 ∧ (t0 = 1 ∨ t0 = 2))) ∧ xi_in i n = true then some (rest, xi_set hp.1 a (.inl (t0, n, .inl (upd f i.toNatClampNeg (xi_nar t0 x)))), hp.2) else none
    | _ => none
  | _ => none
def xi_lald (st : List Value) (hp : xi_H) : Option (List Value × xi_H) := match st with
  | .int i :: .ref a :: rest => match hp.1 a with
    | .inl (3, n, .inr (.inl f)) => if xi_in i n = true then some (.long (f i.toNatClampNeg) :: rest, hp) else none
    | _ => none
  | _ => none
def xi_last (st : List Value) (hp : xi_H) : Option (List Value × xi_H) := match st with
  | .long x :: .int i :: .ref a :: rest => match hp.1 a with
    | .inl (3, n, .inr (.inl f)) => if xi_in i n = true then some (rest, xi_set hp.1 a (.inl (3, n, .inr (.inl (vp_updL f i.toNatClampNeg x)))), hp.2) else none
    | _ => none
  | _ => none
def xi_aald (st : List Value) (hp : xi_H) : Option (List Value × xi_H) := match st with
  | .int i :: .ref a :: rest => match hp.1 a with
    | .inl (4, n, .inr (.inr (.inr (.inr f)))) => if xi_in i n = true then match f i.toNatClampNeg with
        | some r => some (.ref r :: rest, hp)
        | none => none
      else none
    | _ => none
  | _ => none
def xi_aast (st : List Value) (hp : xi_H) : Option (List Value × xi_H) := match st with
  | .ref r :: .int i :: .ref a :: rest => match hp.1 a, hp.1 r with
    | .inl (4, n, .inr (.inr (.inr (.inr f)))), .inr (1, _) => if xi_in i n = true then some (rest, xi_set hp.1 a (.inl (4, n, .inr (.inr (.inr (.inr (va_up f i.toNatClampNeg (some r))))))), hp.2) else none
    | _, _ => none
  | _ => none
def xi_slen (L : Nat) (st : List Value) (hp : xi_H) : Option (List Value × xi_H) := match st with
  | .ref 0 :: rest => some (.int (Int32.ofNat L) :: rest, hp)
  | _ => none
/-- a new cell: only as long as all new cells are ours -/
def xi_mk (o : xi_O) (N : Nat) (rest : List Value) (hp : xi_H) : Option (List Value × xi_H) := if hp.2.1 = hp.2.2.1 then some (.ref (100 + hp.2.1) :: rest, xi_set hp.1 (100 + hp.2.1) o, hp.2.1 + 1, hp.2.2.1 + 1, hp.2.2.2 + N) else none
def xi_newa (t : ArrayType) (st : List Value) (hp : xi_H) : Option (List Value × xi_H) := match st with
  | .int n :: rest => if 0 ≤ n ∧ n ≤ 10000 then (match t with
      | .int => xi_mk (.inl (0, n.toNatClampNeg, .inl fun _ => 0)) n.toNatClampNeg rest hp
      | .byte => xi_mk (.inl (1, n.toNatClampNeg, .inl fun _ => 0)) n.toNatClampNeg rest hp
      | .boolean => xi_mk (.inl (2, n.toNatClampNeg, .inl fun _ => 0)) n.toNatClampNeg rest hp
      | .long => xi_mk (.inl (3, n.toNatClampNeg, .inr (.inl fun _ => 0))) n.toNatClampNeg rest hp
      | _ => none) else none
  | _ => none
def xi_newq (own idx : Nat) (st : List Value) (hp : xi_H) : Option (List Value × xi_H) := match st with
  | .int n :: rest => if 0 ≤ n ∧ n ≤ 10000 ∧ xi_new own idx = some 1 then xi_mk (.inl (4, n.toNatClampNeg, .inr (.inr (.inr (.inr fun _ => none))))) n.toNatClampNeg rest hp else none
  | _ => none
def xi_newo (own idx : Nat) (st : List Value) (hp : xi_H) : Option (List Value × xi_H) := match xi_new own idx with
  | some ci => xi_mk (.inr (ci, xi_df ci)) (xi_df ci).length st hp
  | none => none
def xi_ldc (own idx : Nat) (st : List Value) (hp : xi_H) : Option (List Value × xi_H) := match xi_kon own idx with
  | some v => some (.int v :: st, hp)
  | none => match xi_ldi own idx with
    | some j => some (.ref (1 + j) :: st, hp)
    | none => none
/-- calls of the JDK's own -/
def xi_p5 (st : List Value) (hp : xi_H) : Option (List Value × xi_H) := match st with
  | .int n :: .int dp :: .ref a1 :: .int sp :: .ref a0 :: rest => if xi_low rest = true ∧ 0 ≤ sp ∧ 0 ≤ dp ∧ 0 ≤ n then match hp.1 a0, hp.1 a1 with
      | .inl (0, n0, .inl f), .inl (0, n1, .inl g) => if sp.toNatClampNeg + n.toNatClampNeg ≤ n0 ∧ dp.toNatClampNeg + n.toNatClampNeg ≤ n1 then some (rest, xi_set hp.1 a1 (.inl (0, n1, .inl (va_cpy f g sp.toNatClampNeg dp.toNatClampNeg n.toNatClampNeg))), hp.2) else none
      | .inl (3, n0, .inr (.inl f)), .inl (3, n1, .inr (.inl g)) => if sp.toNatClampNeg + n.toNatClampNeg ≤ n0 ∧ dp.toNatClampNeg + n.toNatClampNeg ≤ n1 then some (rest, xi_set hp.1 a1 (.inl (3, n1, .inr (.inl (va_cpy f g sp.toNatClampNeg dp.toNatClampNeg n.toNatClampNeg)))), hp.2) else none
      | _, _ => none
    else none
  | _ => none
def xi_p6 (st : List Value) (hp : xi_H) : Option (List Value × xi_H) := match st with
  | .ref _ :: rest => if xi_low rest = true then some (rest, hp) else none
  | _ => none
def xi_p9 (st : List Value) (hp : xi_H) : Option (List Value × xi_H) := match st with
  | .int y :: .int x :: rest => if xi_low rest = true then some (.int (if x < y then y else x) :: rest, hp) else none
  | _ => none
def xi_p10 (st : List Value) (hp : xi_H) : Option (List Value × xi_H) := match st with
  | .int y :: .int x :: rest => if xi_low rest = true then some (.int (if y < x then y else x) :: rest, hp) else none
  | _ => none
def xi_rg (lo hi j : Nat) : Bool := decide (lo ≤ j ∧ j ≤ hi)
theorem xi_rg_of {lo hi j : Nat} (h : xi_rg lo hi j = true) : lo ≤ j ∧ j ≤ hi := of_decide_eq_true h
/-- the strings' own methods: fields, bytes, and the one static that they ask -/
def xi_str (mi : Nat) (i : Instr) (st : List Value) (hp : xi_H) : Option (List Value × xi_H) := match i, st with
  | .getfield idx, .ref j :: rest => if (xi_m mi).1 = 10 ∧ xi_rg 1 6 j = true then (if idx = 9 then some (.ref (10 + j) :: rest, hp) else if idx = 15 then some (.int 0 :: rest, hp) else none) else none
  | .arraylength, .ref a :: rest => if xi_rg 11 16 a = true then some (.int (nI (xi_sb.getD (a - 11) []).length) :: rest, hp) else none
  | .baload, .int i :: .ref a :: rest => if xi_rg 11 16 a = true ∧ xi_in i (xi_sb.getD (a - 11) []).length = true then some (.int ((xi_sb.getD (a - 11) []).getD i.toNatClampNeg 0) :: rest, hp) else none
  | .getstatic idx, st => if (xi_m mi).1 = 10 ∧ idx = 38 then some (.int 1 :: st, hp) else none
  | .invokestatic idx, .int n :: .int i :: rest => if xi_prm (xi_m mi).1 idx = some 7 ∧ 2 ≤ xi_fr mi ∧ 80 ≤ xi_lo mi ∧ xi_low rest = true ∧ 0 ≤ i ∧ i < n then some (rest, hp) else none
  | _, _ => none
/-- what an instruction of the heap does -/
def xi_heap (xs : Nat → Int32) (L mi : Nat) (i : Instr) (st : List Value) (hp : xi_H) : Option (List Value × xi_H) := match i with
  | .getfield idx => xi_getf (xi_m mi).1 idx st hp
  | .putfield idx => xi_putf (xi_m mi).1 ((xi_m mi).2.1 == "<init>") idx st hp
  | .iaload => xi_ald 0 xs L st hp
  | .baload => xi_ald 1 xs L st hp
  | .iastore => xi_ast 0 st hp
  | .bastore => xi_ast 1 st hp
  | .laload => xi_lald st hp
  | .lastore => xi_last st hp
  | .aaload => xi_aald st hp
  | .aastore => xi_aast st hp
  | .arraylength => xi_slen L st hp
  | .newarray t => xi_newa t st hp
  | .anewarray idx => xi_newq (xi_m mi).1 idx st hp
  | .new idx => xi_newo (xi_m mi).1 idx st hp
  | .ldc idx => xi_ldc (xi_m mi).1 idx st hp
  | .ldc_w idx => match xi_kon (xi_m mi).1 idx with
    | some v => some (.int v :: st, hp)
    | none => none
  | .invokespecial idx => if 1 ≤ xi_fr mi ∧ 21 ≤ xi_lo mi then match xi_prm (xi_m mi).1 idx with
      | some 6 => xi_p6 st hp
      | _ => none
    else none
  | .invokestatic idx => if 1 ≤ xi_fr mi ∧ 38 ≤ xi_lo mi then match xi_prm (xi_m mi).1 idx with
      | some 5 => xi_p5 st hp
      | some 9 => xi_p9 st hp
      | some 10 => xi_p10 st hp
      | _ => none
    else none
  | _ => none
