/-! Calls of the law's own methods: what they do with a value and with an exception. -/
def kD (o : Option xi_R) (κ : Option Value → xi_H → Option xi_R) (η : String → xi_H → Option xi_R) : Option xi_R := match o with
  | some (.inl v, hp') => κ v hp'
  | some (.inr X, hp') => η X hp'
  | none => none
noncomputable def kX (xs : Nat → Int32) (L mi pc : Nat) (ll : List Value) (X : String) (hp : xi_H) : Option xi_R := match xi_catch mi pc X ll with
  | some (pc', ll') => ev xs L mi pc' ll' [] hp
  | none => none
section XLO
variable {xs : Nat → Int32} {L : Nat} {mi pc len : Nat} {i : Instr} {ll st ll' st' : List Value} {hp hp' : xi_H}
theorem nx_kD {v : Option Value} {κ : Option Value → xi_H → Option xi_R} {η : String → xi_H → Option xi_R} : kD (some (.inl v, hp)) κ η = κ v hp := rfl
theorem nx_kDr {X : String} {κ : Option Value → xi_H → Option xi_R} {η : String → xi_H → Option xi_R} : kD (some (.inr X, hp)) κ η = η X hp := rfl
theorem ev_callL {k : Nat} {as rest : List Value} (hc : xi_code mi pc = some (i, 3)) (hl : xi_len i = 3) (hb : xi_br i pc st = none) (hu : xi_pure i ll st = none) (hh : xi_heap xs L mi i st hp = none) (hr : xi_ret mi i st = none) (hca : xi_call mi i st hp = some (k, as, rest)) : ev xs L mi pc ll st hp = kD (ev xs L k 0 (xi_loc k as) [] hp) (fun v hp' => ev xs L mi (pc + 3) ll (v.toList ++ rest) hp') (fun X hp' => kX xs L mi pc ll X hp') := by
  rw [ev_eq]
  unfold xi_step
  simp only [hc, hb, hu, hh, hr, hca]
  rw [if_pos hl.symm]
  unfold kD kX
  split
  · next v hp1 hx => rw [hx]
  · next X hp1 hx =>
    rw [hx]
    rfl
  · next hx => rw [hx]
theorem ev_callVL {k idx c r : Nat} {as rest : List Value} (hc : xi_code mi pc = some (.invokevirtual idx, 3)) (hm : xi_mth (xi_m mi).1 idx = some (k, 0)) (hn : xi_na k = as.length) (hk : (xi_m k).1 = c) (h10 : c ≠ 10) (hg : xi_gd mi k (.ref r :: as) rest = true) (hst : st = as.reverse ++ .ref r :: rest) (hb : xi_br (.invokevirtual idx) pc st = none) (hu : xi_pure (.invokevirtual idx) ll st = none) (hr : xi_ret mi (.invokevirtual idx) st = none) (hs : xi_str mi (.invokevirtual idx) st hp = none) : ev xs L mi pc ll st hp = kV (hp.1 r) c (kD (ev xs L k 0 (xi_loc k (.ref r :: as)) [] hp) (fun v hp' => ev xs L mi (pc + 3) ll (v.toList ++ rest) hp') (fun X hp' => kX xs L mi pc ll X hp')) := by
  have hdrop : st.drop (xi_na k) = .ref r :: rest := by
    rw [hst, hn, List.drop_append, List.length_reverse, Nat.sub_self, List.drop_zero, List.drop_eq_nil_of_le (by rw [List.length_reverse]; exact Nat.le_refl _), List.nil_append]
  have htake : (st.take (xi_na k)).reverse = as := by
    rw [hst, hn, List.take_append, List.length_reverse, Nat.sub_self, List.take_zero, List.append_nil, List.take_of_length_le (by rw [List.length_reverse]; exact Nat.le_refl _), List.reverse_reverse]
  have hle : xi_na k ≤ st.length := by
    rw [hst, hn, List.length_append, List.length_reverse]
    omega
  have hca : xi_call mi (.invokevirtual idx) st hp = if xi_rcv k r hp = true then some (k, .ref r :: as, rest) else none := by
    unfold xi_call
    simp only [hm, hdrop, htake]
    by_cases h9 : xi_rcv k r hp = true
    · rw [if_pos ⟨hle, h9, hg⟩, if_pos h9]
    · rw [if_neg (fun z => h9 z.2.1), if_neg h9]
  have hrc : xi_rcv k r hp = match hp.1 r with
      | .inr (c', _) => c' == c
      | _ => false := by
    unfold xi_rcv
    rw [if_neg (by rw [hk]; exact h10), hk]
    rfl
  unfold kV
  split
  · next c' fs hof =>
    rw [hof] at hrc
    by_cases h1 : c' = c
    · rw [if_pos h1]
      have h9 : xi_rcv k r hp = true := by rw [hrc]; exact beq_iff_eq.mpr h1
      rw [if_pos h9] at hca
      exact ev_callL hc rfl hb hu rfl hr hca
    · rw [if_neg h1]
      have h9 : ¬ xi_rcv k r hp = true := by rw [hrc]; intro z; exact h1 (beq_iff_eq.mp z)
      rw [if_neg h9] at hca
      exact ev_stop hc hb hu rfl hr hca hs rfl
  · next hof =>
    have h9 : ¬ xi_rcv k r hp = true := by
      rw [hrc]
      split
      · next c' fs h8 => exact absurd h8 (hof c' fs)
      · intro z; cases z
    rw [if_neg h9] at hca
    exact ev_stop hc hb hu rfl hr hca hs rfl
theorem ev_callSL {k kd idx : Nat} {as rest : List Value} (hc : xi_code mi pc = some (.invokestatic idx, 3)) (hm : xi_mth (xi_m mi).1 idx = some (k, kd)) (hkd : kd = 1 ∨ kd = 3 ∨ kd = 4) (hpm : xi_prm (xi_m mi).1 idx = none) (hn : xi_na k = as.length) (hg : xi_gd mi k as rest = true) (hst : st = as.reverse ++ rest) (hb : xi_br (.invokestatic idx) pc st = none) (hu : xi_pure (.invokestatic idx) ll st = none) (hr : xi_ret mi (.invokestatic idx) st = none) : ev xs L mi pc ll st hp = kD (ev xs L k 0 (xi_loc k as) [] hp) (fun v hp' => ev xs L mi (pc + 3) ll (v.toList ++ rest) hp') (fun X hp' => kX xs L mi pc ll X hp') := by
  have hdrop : st.drop (xi_na k) = rest := by
    rw [hst, hn, List.drop_append, List.length_reverse, Nat.sub_self, List.drop_zero, List.drop_eq_nil_of_le (by rw [List.length_reverse]; exact Nat.le_refl _), List.nil_append]
  have htake : (st.take (xi_na k)).reverse = as := by
    rw [hst, hn, List.take_append, List.length_reverse, Nat.sub_self, List.take_zero, List.append_nil, List.take_of_length_le (by rw [List.length_reverse]; exact Nat.le_refl _), List.reverse_reverse]
  have hle : xi_na k ≤ st.length := by
    rw [hst, hn, List.length_append, List.length_reverse]
    omega
  have hca : xi_call mi (.invokestatic idx) st hp = some (k, as, rest) := by
    unfold xi_call
    rcases hkd with rfl | rfl | rfl <;> simp only [hm, hdrop, htake] <;> rw [if_pos ⟨hle, hg⟩]
  have hhe : xi_heap xs L mi (.invokestatic idx) st hp = none := by
    show (if 1 ≤ xi_fr mi ∧ 38 ≤ xi_lo mi then (match xi_prm (xi_m mi).1 idx with
      | some 5 => xi_p5 st hp
      | some 9 => xi_p9 st hp
      | some 10 => xi_p10 st hp
      | _ => none) else none) = none
    rw [hpm]
    split <;> rfl
  exact ev_callL hc rfl hb hu hhe hr hca
theorem ev_callIL {k idx c r : Nat} {as rest : List Value} (hc : xi_code mi pc = some (.invokespecial idx, 3)) (hm : xi_mth (xi_m mi).1 idx = some (k, 2)) (hpm : xi_prm (xi_m mi).1 idx = none) (hn : xi_na k = as.length) (hk : (xi_m k).1 = c) (h10 : c ≠ 10) (hg : xi_gd mi k (.ref r :: as) rest = true) (hst : st = as.reverse ++ .ref r :: rest) (hb : xi_br (.invokespecial idx) pc st = none) (hu : xi_pure (.invokespecial idx) ll st = none) (hr : xi_ret mi (.invokespecial idx) st = none) (hs : xi_str mi (.invokespecial idx) st hp = none) : ev xs L mi pc ll st hp = kV (hp.1 r) c (kD (ev xs L k 0 (xi_loc k (.ref r :: as)) [] hp) (fun v hp' => ev xs L mi (pc + 3) ll (v.toList ++ rest) hp') (fun X hp' => kX xs L mi pc ll X hp')) := by
  have hdrop : st.drop (xi_na k) = .ref r :: rest := by
    rw [hst, hn, List.drop_append, List.length_reverse, Nat.sub_self, List.drop_zero, List.drop_eq_nil_of_le (by rw [List.length_reverse]; exact Nat.le_refl _), List.nil_append]
  have htake : (st.take (xi_na k)).reverse = as := by
    rw [hst, hn, List.take_append, List.length_reverse, Nat.sub_self, List.take_zero, List.append_nil, List.take_of_length_le (by rw [List.length_reverse]; exact Nat.le_refl _), List.reverse_reverse]
  have hle : xi_na k ≤ st.length := by
    rw [hst, hn, List.length_append, List.length_reverse]
    omega
  have hhe : xi_heap xs L mi (.invokespecial idx) st hp = none := by
    show (if 1 ≤ xi_fr mi ∧ 21 ≤ xi_lo mi then (match xi_prm (xi_m mi).1 idx with
      | some 6 => xi_p6 st hp
      | _ => none) else none) = none
    rw [hpm]
    split <;> rfl
  have hca : xi_call mi (.invokespecial idx) st hp = if xi_rcv k r hp = true then some (k, .ref r :: as, rest) else none := by
    unfold xi_call
    simp only [hm, hdrop, htake]
    by_cases h9 : xi_rcv k r hp = true
    · rw [if_pos ⟨hle, h9, hg⟩, if_pos h9]
    · rw [if_neg (fun z => h9 z.2.1), if_neg h9]
  have hrc : xi_rcv k r hp = match hp.1 r with
      | .inr (c', _) => c' == c
      | _ => false := by
    unfold xi_rcv
    rw [if_neg (by rw [hk]; exact h10), hk]
    rfl
  unfold kV
  split
  · next c' fs hof =>
    rw [hof] at hrc
    by_cases h1 : c' = c
    · rw [if_pos h1]
      have h9 : xi_rcv k r hp = true := by rw [hrc]; exact beq_iff_eq.mpr h1
      rw [if_pos h9] at hca
      exact ev_callL hc rfl hb hu hhe hr hca
    · rw [if_neg h1]
      have h9 : ¬ xi_rcv k r hp = true := by rw [hrc]; intro z; exact h1 (beq_iff_eq.mp z)
      rw [if_neg h9] at hca
      exact ev_stop hc hb hu hhe hr hca hs rfl
  · next hof =>
    have h9 : ¬ xi_rcv k r hp = true := by
      rw [hrc]
      split
      · next c' fs h8 => exact absurd h8 (hof c' fs)
      · intro z; cases z
    rw [if_neg h9] at hca
    exact ev_stop hc hb hu hhe hr hca hs rfl
/-- the law reads its script -/
theorem ev_sld {x : Int32} (hc : xi_code mi pc = some (.iaload, 1)) : ev xs L mi pc ll (.int x :: .ref 0 :: st) hp = if xi_in x L = true then ev xs L mi (pc + 1) ll (.int (xs x.toNatClampNeg) :: st) hp else none := by
  have hh : xi_heap xs L mi .iaload (.int x :: .ref 0 :: st) hp = if xi_in x L = true then some (.int (xs x.toNatClampNeg) :: st, hp) else none := by
    show xi_ald 0 xs L (.int x :: .ref 0 :: st) hp = _
    show (if 0 = 0 ∧ xi_in x L = true then some (Value.int (xs x.toNatClampNeg) :: st, hp) else none) = _
    by_cases h : xi_in x L = true
    · rw [if_pos ⟨rfl, h⟩, if_pos h]
    · rw [if_neg (fun z => h z.2), if_neg h]
  by_cases h : xi_in x L = true
  · rw [if_pos h] at hh ⊢
    exact ev_heap hc rfl rfl rfl hh
  · rw [if_neg h] at hh ⊢
    exact ev_stop hc rfl rfl hh rfl rfl rfl rfl
theorem ev_slen (hc : xi_code mi pc = some (.arraylength, 1)) : ev xs L mi pc ll (.ref 0 :: st) hp = ev xs L mi (pc + 1) ll (.int (nI L) :: st) hp := ev_heap hc rfl rfl rfl rfl
theorem kX_of {hpc : Nat} {k : Fin 4} {X : String} (h1 : (xi_m mi).1 = 8 ∧ X ∈ xi_ex) (h2 : xi_hand X pc (xi_hh mi) = some hpc) (h3 : xi_code mi hpc = some (.astore_n k, 1)) (h4 : xi_s1 ll k.val = true) (h5 : ll.set k.val .null = ll') : kX xs L mi pc ll X hp = ev xs L mi (hpc + 1) ll' [] hp := by
  have : xi_catch mi pc X ll = some (hpc + 1, ll') := by
    unfold xi_catch
    rw [if_pos h1, h2]
    simp only [h3, h4, if_true, h5]
  unfold kX
  rw [this]
theorem kX_of2 {hpc k : Nat} {X : String} (h1 : (xi_m mi).1 = 8 ∧ X ∈ xi_ex) (h2 : xi_hand X pc (xi_hh mi) = some hpc) (h3 : xi_code mi hpc = some (.astore k, 2)) (h4 : xi_s1 ll k = true) (h5 : ll.set k .null = ll') : kX xs L mi pc ll X hp = ev xs L mi (hpc + 2) ll' [] hp := by
  have : xi_catch mi pc X ll = some (hpc + 2, ll') := by
    unfold xi_catch
    rw [if_pos h1, h2]
    simp only [h3, h4, if_true, h5]
  unfold kX
  rw [this]
theorem st_l247 {S : xS} {t : Nat × Nat × Nat} (i : Int32) (κ : Int64 → Option xi_R) : kLh (hS S t) 247 i κ = if xi_in i 1 = true then κ (S.2.2.2.2 i.toNatClampNeg) else none := rfl
theorem st_ls247 {S : xS} {t : Nat × Nat × Nat} (i : Int32) (v : Int64) (κ : xi_H → Option xi_R) : kLsh (hS S t) 247 i v κ = if xi_in i 1 = true then κ (hS (sO S i.toNatClampNeg v) t) else none := by
  show (if xi_in i 1 = true then κ (xi_set (mkH S) 247 _, t) else none) = (if xi_in i 1 = true then κ (mkH _, t) else none)
  rw [show xi_set (mkH S) 247 _ = mkH (sO S i.toNatClampNeg v) from set_o (by decide) (by simp only [oObj, sO]; refine congrArg (fun z => (Sum.inl (3, 1, Sum.inr (Sum.inl z)) : xi_O)) ?_; funext k; unfold vp_updL; by_cases hk : k = i.toNatClampNeg <;> simp [hk]) rfl rfl (fun _ _ => rfl) (fun _ _ => rfl) (fun z => absurd rfl z)]
theorem lgc_self (x : Int64) : lg_cmp x x = nI 0 := (lg_cmp_eq x x).mpr rfl
end XLO
