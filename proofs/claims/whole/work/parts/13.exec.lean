/-! The small machine's runs. -/
def xi_codes (mi : Nat) : List (Nat × Instr × Nat) := (xi_cds[mi]?).getD []
def xi_at : List (Nat × Instr × Nat) → Nat → Option (Instr × Nat)
  | [], _ => none
  | e :: l, pc => if e.1 = pc then some e.2 else xi_at l pc
def xi_code (mi pc : Nat) : Option (Instr × Nat) := xi_at (xi_codes mi) pc
theorem xi_at_mem : ∀ {l : List (Nat × Instr × Nat)} {pc : Nat} {q : Instr × Nat}, xi_at l pc = some q → (pc, q) ∈ l
  | [], _, _, h => by cases h
  | e :: l, pc, q, h => by
    unfold xi_at at h
    split at h
    · next he =>
      cases h
      rw [← he]
      exact List.mem_cons_self
    · exact List.mem_cons_of_mem _ (xi_at_mem h)
theorem xi_code_ok {mi pc len : Nat} {i : Instr} (h : xi_code mi pc = some (i, len)) : decode (xi_m mi).2.2.2.1 pc = .ok (i, len) := by
  have hm := xi_at_mem h
  unfold xi_codes at hm
  cases hk : xi_cds[mi]? with
  | none => rw [hk] at hm; cases hm
  | some k =>
    rw [hk] at hm
    have hm : (pc, i, len) ∈ k := hm
    cases hM : xi_md[mi]? with
    | none =>
      have h1 : xi_cds.length = 239 := by decide +kernel
      have h2 : xi_md.length = 239 := by decide +kernel
      have h3 := (List.getElem?_eq_some_iff.mp hk).1
      have h4 := List.getElem?_eq_none_iff.mp hM
      omega
    | some M =>
      have hx : xi_m mi = M := by unfold xi_m; rw [hM]; rfl
      rw [hx]
      exact xi_ok2_get xi_cds_ok mi M k (by rw [← hM]; simp only [xi_md, List.append_assoc]) hk (pc, i, len) hm
def xi_ret (mi : Nat) (i : Instr) (st : List Value) : Option (Option Value) := match i, st with
  | .ireturn, [.int v] => match (xi_m mi).2.2.2.2.2.1 with
    | some ty => if narrow ty (.int v) = .int v then some (some (.int v)) else none
    | none => none
  | .lreturn, [.long v] => if (xi_m mi).2.2.2.2.2.1 = some .long then some (some (.long v)) else none
  | .return_, [] => if (xi_m mi).2.2.2.2.2.1 = none then some none else none
  | _, _ => none
def xi_na (k : Nat) : Nat := (xi_m k).2.2.2.2.2.2.1
def xi_rcv (k r : Nat) (hp : xi_H) : Bool := if (xi_m k).1 = 10 then xi_rg 1 6 r else match hp.1 r with
  | .inr (c, _) => c == (xi_m k).1
  | _ => false
/-- may the method k be called from mi with these arguments -/
def xi_gd (mi k : Nat) (args rest : List Value) : Bool := xi_low rest && args.all xi_c1 && decide (args.length ≤ xi_maxL k) && decide (xi_fr k + 1 ≤ xi_fr mi) && decide (8 + (xi_maxL k + 11) + xi_lo k ≤ xi_lo mi)
def xi_call (mi : Nat) (i : Instr) (st : List Value) (hp : xi_H) : Option (Nat × List Value × List Value) := match i with
  | .invokevirtual idx => match xi_mth (xi_m mi).1 idx with
    | some (k, 0) => match st.drop (xi_na k) with
      | .ref r :: rest => if xi_na k ≤ st.length ∧ xi_rcv k r hp = true ∧ xi_gd mi k (.ref r :: (st.take (xi_na k)).reverse) rest = true then some (k, .ref r :: (st.take (xi_na k)).reverse, rest) else none
      | _ => none
    | _ => none
  | .invokespecial idx => match xi_mth (xi_m mi).1 idx with
    | some (k, 2) => match st.drop (xi_na k) with
      | .ref r :: rest => if xi_na k ≤ st.length ∧ xi_rcv k r hp = true ∧ xi_gd mi k (.ref r :: (st.take (xi_na k)).reverse) rest = true then some (k, .ref r :: (st.take (xi_na k)).reverse, rest) else none
      | _ => none
    | _ => none
  | .invokestatic idx => match xi_mth (xi_m mi).1 idx with
    | some (k, 1) => if xi_na k ≤ st.length ∧ xi_gd mi k (st.take (xi_na k)).reverse (st.drop (xi_na k)) = true then some (k, (st.take (xi_na k)).reverse, st.drop (xi_na k)) else none
    | some (k, 3) => if xi_na k ≤ st.length ∧ xi_gd mi k (st.take (xi_na k)).reverse (st.drop (xi_na k)) = true then some (k, (st.take (xi_na k)).reverse, st.drop (xi_na k)) else none
    | some (k, 4) => if xi_na k ≤ st.length ∧ xi_gd mi k (st.take (xi_na k)).reverse (st.drop (xi_na k)) = true then some (k, (st.take (xi_na k)).reverse, st.drop (xi_na k)) else none
    | _ => none
  | _ => none
/-- the locals that a method begins with -/
def xi_loc (k : Nat) (args : List Value) : List Value := args ++ List.replicate (xi_maxL k - args.length) .null
def xi_hh (mi : Nat) : List (Nat × Nat × Nat × Nat) := (xi_m mi).2.2.2.2.2.2.2.2.2.2
def xi_hand (X : String) (pc : Nat) : List (Nat × Nat × Nat × Nat) → Option Nat
  | [] => none
  | q :: r => if q.1 ≤ pc ∧ pc < q.2.1 then (match (xi_ct.find? (fun e => e.1 == q.2.2.2)).map (fun e => e.2) with
    | some nm => if nm = X then some q.2.2.1 else if X ∈ xi_ex ∧ nm ∈ xi_ex then xi_hand X pc r else none
    | none => none) else xi_hand X pc r
/-- an exception is caught and put aside -/
def xi_catch (mi pc : Nat) (X : String) (ll : List Value) : Option (Nat × List Value) := if (xi_m mi).1 = 8 ∧ X ∈ xi_ex then match xi_hand X pc (xi_hh mi) with
    | some h => match xi_code mi h with
      | some (.astore_n k, 1) => if xi_s1 ll k = true then some (h + 1, ll.set k .null) else none
      | some (.astore k, 2) => if xi_s1 ll k = true then some (h + 2, ll.set k .null) else none
      | _ => none
    | none => none
  else none
/-- new X(text), thrown at once -/
def xi_thr (mi pc : Nat) (i : Instr) (st : List Value) : Option String := match i with
  | .new ik => if (xi_m mi).1 = 6 ∧ (xi_hh mi).isEmpty = true ∧ 6 ≤ xi_fr mi ∧ 100 ≤ xi_lo mi ∧ xi_low st = true then match xi_th.find? (fun e => e.1 == ik) with
      | some e => match xi_code mi (pc + 3), xi_code mi (pc + 4) with
        | some (.dup, 1), some (.ldc si, 2) => if xi_code mi (pc + 6) = some (.invokespecial e.2.1, 3) ∧ xi_code mi (pc + 9) = some (.athrow, 1) ∧ (xi_xt.any fun q => q.1 == si) = true then some e.2.2 else none
        | some (.dup, 1), some (.ldc_w si, 3) => if xi_code mi (pc + 7) = some (.invokespecial e.2.1, 3) ∧ xi_code mi (pc + 10) = some (.athrow, 1) ∧ (xi_xt.any fun q => q.1 == si) = true then some e.2.2 else none
        | _, _ => none
      | none => none
    else none
  | _ => none
def xi_sw : Instr → Bool
  | .tableswitch _ _ _ _ => true
  | _ => false
theorem xi_sw_of {i : Instr} (h : xi_sw i = true) : ∃ a b c d, i = .tableswitch a b c d := by
  cases i <;> first | exact ⟨_, _, _, _, rfl⟩ | cases h
def xi_exec (xs : Nat → Int32) (L : Nat) : Nat → Nat → Nat → List Value → List Value → xi_H → Option ((Option Value ⊕ String) × xi_H)
  | 0, _, _, _, _, _ => none
  | f + 1, mi, pc, ll, st, hp => match xi_code mi pc with
    | none => none
    | some (i, len) => match xi_br i pc st with
      | some (pc', st') => if (xi_len i = len ∨ xi_sw i = true) then xi_exec xs L f mi pc' ll st' hp else none
      | none => if len = xi_len i then match xi_pure i ll st with
        | some (ll', st') => xi_exec xs L f mi (pc + len) ll' st' hp
        | none => match xi_heap xs L mi i st hp with
          | some (st', hp') => xi_exec xs L f mi (pc + len) ll st' hp'
          | none => match xi_ret mi i st with
            | some r => some (.inl r, hp)
            | none => match xi_call mi i st hp with
              | some (k, args, rest) => match xi_exec xs L f k 0 (xi_loc k args) [] hp with
                | some (.inl v, hp') => xi_exec xs L f mi (pc + len) ll (v.toList ++ rest) hp'
                | some (.inr X, hp') => match xi_catch mi pc X ll with
                  | some (pc', ll') => xi_exec xs L f mi pc' ll' [] hp'
                  | none => none
                | none => none
              | none => match xi_str mi i st hp with
                | some (st', hp') => xi_exec xs L f mi (pc + len) ll st' hp'
                | none => match xi_thr mi pc i st with
                  | some X => some (.inr X, hp.1, hp.2.1, hp.2.2.1 + 1, hp.2.2.2 + 6)
                  | none => none
        else none
