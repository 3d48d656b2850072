section XT0
variable {xs : Nat → Int32} {L : Nat} {S : xS} {O O' : Nat → Option xi_O} {hp : xi_H} {a b k n z : Nat} {o : xi_O} {p : Option xi_O} {rest : List Value} {t : Nat × Nat × Nat}
def zI (id k : Nat) : Int32 := if (id = 100 ∧ k = 8) ∨ (id = 205 ∧ k = 4) ∨ (id = 235 ∧ k = 18) then -1 else 0
/-- the store under the overlay at the start -/
def Z0 : xS := (fun _ => z0, fun _ _ => 0, fun _ _ => 0, zI, fun _ => 0)
/-- all from 100 + n on is dead -/
def Dd (n : Nat) : Nat → Option xi_O := fun id => if 100 ≤ id ∧ id < 100 + n then none else some xi_dead
theorem ov_pc (hm : hp.1 a = o) (h1 : O' a = none) (h2 : ∀ id, id ≠ a → O' id = O id) : ov (upO O a (some o)) hp = ov O' hp := by
  refine Prod.ext ?_ rfl
  funext id
  show (if id = a then some o else O id).getD (hp.1 id) = (O' id).getD (hp.1 id)
  by_cases hi : id = a
  · rw [if_pos hi, hi, h1, hm]
    rfl
  · rw [if_neg hi, h2 id hi]
theorem dd_p (hm : mkH S (100 + n) = o) (hb : 100 ≤ b ∧ b < 100 + n) : ov (upO (upO (Dd n) b p) (100 + n) (some o)) (hS S t) = ov (upO (Dd (n + 1)) b p) (hS S t) := by
  refine ov_pc hm ?_ (fun id hi => ?_)
  · show (if 100 + n = b then p else if 100 ≤ 100 + n ∧ 100 + n < 100 + (n + 1) then none else some xi_dead) = none
    rw [if_neg (by omega), if_pos (by omega)]
  · show (if id = b then p else if 100 ≤ id ∧ id < 100 + (n + 1) then none else some xi_dead) = (if id = b then p else if 100 ≤ id ∧ id < 100 + n then none else some xi_dead)
    by_cases h : id = b
    · rw [if_pos h, if_pos h]
    · rw [if_neg h, if_neg h]
      by_cases h2 : 100 ≤ id ∧ id < 100 + n
      · rw [if_pos h2, if_pos (by omega)]
      · rw [if_neg h2, if_neg (by omega)]
theorem dd_i (hk : k ≤ 10000) (hm : mkH S (100 + n) = .inl (0, k, .inl fun _ => 0)) (hb : 100 ≤ b ∧ b < 100 + n) : xi_newa .int (.int (nI k) :: rest) (ov (upO (Dd n) b p) (hS S (n, n, z))) = some (.ref (100 + n) :: rest, ov (upO (Dd (n + 1)) b p) (hS S (n + 1, n + 1, z + k))) := by
  rw [al_i hk, dd_p hm hb]
theorem dd_b (hk : k ≤ 10000) (hm : mkH S (100 + n) = .inl (1, k, .inl fun _ => 0)) (hb : 100 ≤ b ∧ b < 100 + n) : xi_newa .byte (.int (nI k) :: rest) (ov (upO (Dd n) b p) (hS S (n, n, z))) = some (.ref (100 + n) :: rest, ov (upO (Dd (n + 1)) b p) (hS S (n + 1, n + 1, z + k))) := by
  rw [al_b hk, dd_p hm hb]
theorem dd_z (hk : k ≤ 10000) (hm : mkH S (100 + n) = .inl (2, k, .inl fun _ => 0)) (hb : 100 ≤ b ∧ b < 100 + n) : xi_newa .boolean (.int (nI k) :: rest) (ov (upO (Dd n) b p) (hS S (n, n, z))) = some (.ref (100 + n) :: rest, ov (upO (Dd (n + 1)) b p) (hS S (n + 1, n + 1, z + k))) := by
  rw [al_z hk, dd_p hm hb]
theorem dd_0 : ((fun _ => xi_dead, 0, 0, 0) : xi_H) = ov (Dd 0) (hS Z0 (0, 0, 0)) := by
  refine Prod.ext ?_ rfl
  funext id
  show xi_dead = (if 100 ≤ id ∧ id < 100 + 0 then (none : Option xi_O) else some xi_dead).getD (mkH Z0 id)
  rw [if_neg (by omega)]
  rfl
theorem dd_e (S : xS) (t : Nat × Nat × Nat) : ov (Dd 148) (hS S t) = hS S t := by
  refine Prod.ext ?_ rfl
  funext id
  show (if 100 ≤ id ∧ id < 100 + 148 then (none : Option xi_O) else some xi_dead).getD (mkH S id) = mkH S id
  by_cases h : 100 ≤ id ∧ id < 100 + 148
  · rw [if_pos h]
    rfl
  · rw [if_neg h]
    show xi_dead = mkH S id
    unfold mkH
    have hz : gof id = 0 := by
      by_cases hz : gof id = 0
      · exact hz
      · exfalso
        obtain ⟨q1, q2, q3⟩ := gof_z hz
        have key : ∀ g ∈ gB, 100 ≤ g ∧ g + 9 < 248 := by decide
        have := key _ (List.contains_iff_mem.mp q1)
        omega
    rw [if_pos hz]
    unfold oObj
    split <;> first | rfl | (exfalso; omega)
def tr (x0 x1 x2 x3 x4 x5 x6 : Value) (e : Int32) : xi_O := .inr (6, [x0, x1, x2, x3, x4, x5, x6, .int 0, .int e])
theorem upO_x {f : Nat → Option xi_O} (h : ∀ id, f id = O id) : ov f hp = ov O hp := by rw [show f = O from funext h]
theorem v83a : ev xs L 83 0 [.ref 100, .null] [] (ov (upO (Dd 1) 100 (some (tr .null .null .null .null .null .null .null 0))) (hS Z0 (1, 1, 9))) = ev xs L 83 15 [.ref 100, .null] [] (ov (upO (Dd 10) 100 (some (tr (.ref 101) .null .null .null .null .null .null 0))) (hS (pg Z0 101 rI) (10, 10, 126))) := by
  have a5 : ev xs L 83 5 [.ref 100, .null] [.ref 100] (ov (upO (Dd 1) 100 (some (tr .null .null .null .null .null .null .null 0))) (hS Z0 (1, 1, 9))) = ev xs L 83 8 [.ref 100, .null] [.ref 101, .ref 100] (ov (upO (upO (Dd 1) 100 (some (tr .null .null .null .null .null .null .null 0))) 101 (some (gm .null .null .null .null))) (hS Z0 (2, 2, 17))) := r83_5 (xs := xs) (L := L) _ _ _ _ _ _ (al_o (S := Z0) (O := upO (Dd 1) 100 (some (tr .null .null .null .null .null .null .null 0))) (n := 1) (z := 9) (rest := [.ref 100]) (own := 6) (idx := 9) (ci := 1) (by decide +kernel))
  have e3 := fun p => v3z (xs := xs) (L := L) (S := Z0) (O := upO (Dd 1) 100 p) (g := 101) (n := 2) (z := 17) (by decide) (by decide) rfl rfl
  have ho : ∀ p, hole (upO (Dd 1) 100 p) 101 = upO (Dd 10) 100 p := by
    intro p
    funext id
    unfold hole upO Dd
    repeat' split
    all_goals first | rfl | omega
  have hn : ((2 + 8, 2 + 8, 17 + 109) : Nat × Nat × Nat) = (10, 10, 126) := rfl
  have hv : ∀ O κ hp, kVh (ov (upO O 101 (some (gm .null .null .null .null))) hp) 101 1 κ = κ := fun O κ hp => (ov_Vs upO_e κ).trans rfl
  have k0 : ∀ κo, kP (tr .null .null .null .null .null .null .null 0) 6 0 (.ref 101) κo = κo (tr (.ref 101) .null .null .null .null .null .null 0) := fun κo => rfl
  simp only [ho, hn] at e3
  simp (config := { decide := false, maxSteps := 1000000 }) (disch := first | assumption | exact nlg_i _ | exact nlg_r _ | exact nlg_n | omega | decide) only [r83_0, r83_1, r83_4, r83_8, r83_9, r83_12, st_g0_0, st_g0_1, st_g0_2, st_g0_3, st_g0_4, st_p0_4, st_g0_5, st_p0_5, st_g0_6, st_p0_6, st_g0_7, st_p0_7, st_v0, st_g1_0, st_g1_1, st_g1_2, st_g1_3, st_p1_3, st_v1, st_g7_0, st_g7_1, st_p7_1, st_g7_2, st_p7_2, st_v7, st_i2, st_is2, st_i3, st_is3, st_i4, st_is4, st_i5, st_is5, st_i6, st_is6, st_l8, st_ls8, st_y2, st_y3, st_y4, st_y8, st_o100_0, st_o100_1, st_o100_2, st_o100_3, st_o100_4, st_o100_5, st_o100_6, st_o100_7, st_q100_7, st_o100_8, st_q100_8, st_w100, st_o110_0, st_o110_1, st_w110, st_o129_0, st_o129_1, st_q129_1, st_o129_2, st_q129_2, st_w129, st_o205_0, st_o205_1, st_q205_1, st_o205_2, st_o205_3, st_q205_3, st_o205_4, st_q205_4, st_o205_5, st_q205_5, st_o205_6, st_q205_6, st_o205_7, st_q205_7, st_o205_8, st_q205_8, st_o205_9, st_q205_9, st_w205, st_o235_0, st_o235_1, st_o235_2, st_o235_3, st_o235_4, st_o235_5, st_o235_6, st_o235_7, st_q235_7, st_o235_8, st_q235_8, st_o235_9, st_o235_10, st_q235_10, st_o235_11, st_q235_11, st_o235_12, st_q235_12, st_o235_13, st_q235_13, st_o235_14, st_q235_14, st_o235_15, st_q235_15, st_o235_16, st_q235_16, st_o235_17, st_q235_17, st_o235_18, st_q235_18, st_o235_19, st_o235_20, st_o235_21, st_q235_21, st_o235_22, st_q235_22, st_o235_23, st_o235_24, st_q235_24, st_w235, st_a204, st_as204, st_a206, st_as206, st_a216, st_as216, st_a236, st_as236, st_a237, st_as237, st_a238, st_as238, st_a239, st_as239, st_a240, st_as240, st_a241, st_as241, st_a242, st_as242, st_a243, st_as243, st_a244, st_as244, st_a245, st_as245, st_a246, st_as246, st_r130, st_r203, nx_in, nx_clamp, nx_i2n, nx_l2n, nx_add, nx_sub, nx_pred, nx_mul, nx_lt, nx_le, nx_eq, nx_shl, nx_shr, nx_and1, nx_andm, nx_m1, nx_or, nx_dr, nx_rem, nx_kC, nx_ift, nx_iff, a5, hv, e3, ov_Ps1, k0, ↓nif_lt_t, ↓nif_lt_f, ↓nif_le_t, ↓nif_le_f, ↓nif_eq_t, ↓nif_eq_f, ↓nif_ne_t, ↓nif_ne_f, Nat.one_mul, List.cons_append, List.nil_append, List.append_nil, Option.toList, if_true, if_false, Bool.false_eq_true, and_true, true_and, and_self]
end XT0
