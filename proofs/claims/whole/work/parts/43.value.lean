section XVL
variable {xs : Nat → Int32} {L : Nat} {S : xS} {t : Nat × Nat × Nat} {c a b : Nat} {r : xG}
theorem i_s1 (A B : Nat) : nI (A + 1) - nI B = (nI A - nI B) + nI 1 := by
  rw [← nI_add, Int32.sub_eq_add_neg, Int32.sub_eq_add_neg, Int32.add_assoc, Int32.add_assoc, Int32.add_comm (nI 1)]
theorem i_s2 (A B : Nat) : nI A - nI (B + 1) = (nI A - nI B) + (-1) := by
  rw [← nI_add, Int32.sub_eq_add_neg, Int32.sub_eq_add_neg, Int32.neg_add, Int32.sub_eq_add_neg (-nI B), ← Int32.add_assoc, show -nI 1 = (-1 : Int32) from by decide]
theorem ldI_e (h pc : Nat → Nat) {p : Nat} (hp : 1 ≤ p ∧ p ≤ 2) : ∀ n, ldI p h pc n = nI (sumTo (fun c => isP p (h c) (pc c)) n) - nI (sumTo (fun c => isP (3 - p) (h c) (pc c)) n) := by
  intro n
  induction n with
  | zero =>
    show nI 0 = nI 0 - nI 0
    decide
  | succ n ih =>
    rw [sumTo_s, sumTo_s]
    have b1 := ctl_le (h n) (pc n)
    unfold ldI
    by_cases h1 : ctl (h n) (pc n) = p
    · rw [if_pos h1, show isP p (h n) (pc n) = 1 from if_pos h1, show isP (3 - p) (h n) (pc n) = 0 from if_neg (by omega), i_s1, ih, Nat.add_zero]
    · rw [if_neg h1]
      by_cases h2 : ctl (h n) (pc n) = 0
      · rw [if_pos h2, show isP p (h n) (pc n) = 0 from if_neg h1, show isP (3 - p) (h n) (pc n) = 0 from if_neg (by omega), ih, Nat.add_zero, Nat.add_zero]
      · rw [if_neg h2, show isP p (h n) (pc n) = 0 from if_neg h1, show isP (3 - p) (h n) (pc n) = 1 from if_pos (by omega), i_s2, ih, Nat.add_zero]
theorem s168 (ho : gok r) (hm : mrel (S.2.2.1 236) r) {p : Nat} (hp : 1 ≤ p ∧ p ≤ 2) : ev xs L 168 0 [.ref 235, .int (nI p)] [] (hS S t) = some (.inl (some (.int (vlI r p))), hS S t) := by
  have e1 := s166 (xs := xs) (L := L) (t := t) ho hm (pl := p) (by omega)
  have e2 := s166 (xs := xs) (L := L) (t := t) ho hm (pl := 3 - p) (by omega)
  have m4 := hm.1.2.2.2.2.1
  have m5 := hm.1.2.2.2.2.2.1
  unfold vlI
  rw [ldI_e _ _ hp, Int32.sub_eq_add_neg (nI (sumTo _ _)), ← Int32.add_assoc, ← Int32.sub_eq_add_neg]
  rcases (show p = 1 ∨ p = 2 by omega) with z | z
  · subst z
    simp only [show 3 - 1 = 2 from rfl] at e2 ⊢
    simp (config := { decide := false, maxSteps := 1000000 }) (disch := first | assumption | exact nlg_i _ | exact nlg_r _ | exact nlg_n | omega | decide) only [r168_0, r168_1, r168_2, r168_5, r168_6, r168_7, r168_8, r168_9, r168_10, r168_11, r168_12, r168_15, r168_17, r168_18, r168_19, r168_20, r168_21, r168_22, r168_23, r168_24, r168_27, r168_28, r168_29, r168_30, r168_31, r168_32, r168_35, r168_36, st_g0_0, st_g0_1, st_g0_2, st_g0_3, st_g0_4, st_p0_4, st_g0_5, st_p0_5, st_g0_6, st_p0_6, st_g0_7, st_p0_7, st_v0, st_g1_0, st_g1_1, st_g1_2, st_g1_3, st_p1_3, st_v1, st_g7_0, st_g7_1, st_p7_1, st_g7_2, st_p7_2, st_v7, st_i2, st_is2, st_i3, st_is3, st_i4, st_is4, st_i5, st_is5, st_i6, st_is6, st_l8, st_ls8, st_y2, st_y3, st_y4, st_y8, st_o100_0, st_o100_1, st_o100_2, st_o100_3, st_o100_4, st_o100_5, st_o100_6, st_o100_7, st_q100_7, st_o100_8, st_q100_8, st_w100, st_o110_0, st_o110_1, st_w110, st_o129_0, st_o129_1, st_q129_1, st_o129_2, st_q129_2, st_w129, st_o205_0, st_o205_1, st_q205_1, st_o205_2, st_o205_3, st_q205_3, st_o205_4, st_q205_4, st_o205_5, st_q205_5, st_o205_6, st_q205_6, st_o205_7, st_q205_7, st_o205_8, st_q205_8, st_o205_9, st_q205_9, st_w205, st_o235_0, st_o235_1, st_o235_2, st_o235_3, st_o235_4, st_o235_5, st_o235_6, st_o235_7, st_q235_7, st_o235_8, st_q235_8, st_o235_9, st_o235_10, st_q235_10, st_o235_11, st_q235_11, st_o235_12, st_q235_12, st_o235_13, st_q235_13, st_o235_14, st_q235_14, st_o235_15, st_q235_15, st_o235_16, st_q235_16, st_o235_17, st_q235_17, st_o235_18, st_q235_18, st_o235_19, st_o235_20, st_o235_21, st_q235_21, st_o235_22, st_q235_22, st_o235_23, st_o235_24, st_q235_24, st_w235, st_a204, st_as204, st_a206, st_as206, st_a216, st_as216, st_a236, st_as236, st_a237, st_as237, st_a238, st_as238, st_a239, st_as239, st_a240, st_as240, st_a241, st_as241, st_a242, st_as242, st_a243, st_as243, st_a244, st_as244, st_a245, st_as245, st_a246, st_as246, st_r130, st_r203, nx_in, nx_clamp, nx_i2n, nx_l2n, nx_add, nx_sub, nx_pred, nx_mul, nx_lt, nx_le, nx_eq, nx_shl, nx_shr, nx_and1, nx_andm, nx_m1, nx_or, nx_dr, nx_rem, nx_kC, nx_ift, nx_iff, show 4 + 1 - 1 = 4 from rfl, show 6 - 1 = 5 from rfl, show 3 - 1 = 2 from rfl, m4, m5, e1, e2, ↓nif_lt_t, ↓nif_lt_f, ↓nif_le_t, ↓nif_le_f, ↓nif_eq_t, ↓nif_eq_f, ↓nif_ne_t, ↓nif_ne_f, Nat.one_mul, List.cons_append, List.nil_append, List.append_nil, Option.toList, if_true, if_false, Bool.false_eq_true, and_true, true_and, and_self]
  · subst z
    simp only [show 3 - 2 = 1 from rfl] at e2 ⊢
    simp (config := { decide := false, maxSteps := 1000000 }) (disch := first | assumption | exact nlg_i _ | exact nlg_r _ | exact nlg_n | omega | decide) only [r168_0, r168_1, r168_2, r168_5, r168_6, r168_7, r168_8, r168_9, r168_10, r168_11, r168_12, r168_15, r168_17, r168_18, r168_19, r168_20, r168_21, r168_22, r168_23, r168_24, r168_27, r168_28, r168_29, r168_30, r168_31, r168_32, r168_35, r168_36, st_g0_0, st_g0_1, st_g0_2, st_g0_3, st_g0_4, st_p0_4, st_g0_5, st_p0_5, st_g0_6, st_p0_6, st_g0_7, st_p0_7, st_v0, st_g1_0, st_g1_1, st_g1_2, st_g1_3, st_p1_3, st_v1, st_g7_0, st_g7_1, st_p7_1, st_g7_2, st_p7_2, st_v7, st_i2, st_is2, st_i3, st_is3, st_i4, st_is4, st_i5, st_is5, st_i6, st_is6, st_l8, st_ls8, st_y2, st_y3, st_y4, st_y8, st_o100_0, st_o100_1, st_o100_2, st_o100_3, st_o100_4, st_o100_5, st_o100_6, st_o100_7, st_q100_7, st_o100_8, st_q100_8, st_w100, st_o110_0, st_o110_1, st_w110, st_o129_0, st_o129_1, st_q129_1, st_o129_2, st_q129_2, st_w129, st_o205_0, st_o205_1, st_q205_1, st_o205_2, st_o205_3, st_q205_3, st_o205_4, st_q205_4, st_o205_5, st_q205_5, st_o205_6, st_q205_6, st_o205_7, st_q205_7, st_o205_8, st_q205_8, st_o205_9, st_q205_9, st_w205, st_o235_0, st_o235_1, st_o235_2, st_o235_3, st_o235_4, st_o235_5, st_o235_6, st_o235_7, st_q235_7, st_o235_8, st_q235_8, st_o235_9, st_o235_10, st_q235_10, st_o235_11, st_q235_11, st_o235_12, st_q235_12, st_o235_13, st_q235_13, st_o235_14, st_q235_14, st_o235_15, st_q235_15, st_o235_16, st_q235_16, st_o235_17, st_q235_17, st_o235_18, st_q235_18, st_o235_19, st_o235_20, st_o235_21, st_q235_21, st_o235_22, st_q235_22, st_o235_23, st_o235_24, st_q235_24, st_w235, st_a204, st_as204, st_a206, st_as206, st_a216, st_as216, st_a236, st_as236, st_a237, st_as237, st_a238, st_as238, st_a239, st_as239, st_a240, st_as240, st_a241, st_as241, st_a242, st_as242, st_a243, st_as243, st_a244, st_as244, st_a245, st_as245, st_a246, st_as246, st_r130, st_r203, nx_in, nx_clamp, nx_i2n, nx_l2n, nx_add, nx_sub, nx_pred, nx_mul, nx_lt, nx_le, nx_eq, nx_shl, nx_shr, nx_and1, nx_andm, nx_m1, nx_or, nx_dr, nx_rem, nx_kC, nx_ift, nx_iff, show 4 + 2 - 1 = 5 from rfl, show 6 - 2 = 4 from rfl, show 3 - 2 = 1 from rfl, m4, m5, e1, e2, ↓nif_lt_t, ↓nif_lt_f, ↓nif_le_t, ↓nif_le_f, ↓nif_eq_t, ↓nif_eq_f, ↓nif_ne_t, ↓nif_ne_f, Nat.one_mul, List.cons_append, List.nil_append, List.append_nil, Option.toList, if_true, if_false, Bool.false_eq_true, and_true, true_and, and_self]
end XVL
