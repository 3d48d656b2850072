section XCD
variable {xs : Nat → Int32} {L : Nat} {S : xS} {t : Nat × Nat × Nat} {A B C P H : Nat → Nat} {ls gv : Int32} {n c m code v j : Nat} {r q : xG} {k : Nat → Nat}
theorem inI_1 {v lo hi : Nat} (h1 : v < 2 ^ 31) (h2 : lo < 2 ^ 31) (h3 : hi < 2 ^ 31) : inI (nI v) (nI lo) (nI hi) = if lo ≤ v ∧ v ≤ hi then 1 else 0 := by
  unfold inI
  by_cases a : v < lo
  · rw [nif_lt_t a h2, if_neg (by omega)]
  · rw [nif_lt_f (by omega) h1]
    by_cases b : hi < v
    · rw [nif_lt_t b h1, if_neg (by omega)]
    · rw [nif_lt_f (by omega) h3, if_pos (by omega)]
theorem s172 (hA0 : S.2.2.1 236 0 = n) (hn : 1 ≤ n ∧ n ≤ 12) (hc : code < 2 ^ 31) : ev xs L 172 0 [.ref 235, .int (nI code)] [] (hS S t) = some (.inl (some (.int (nI (if code < 100 * n ∧ code / 10 % 10 < 2 ∧ 1 ≤ code % 10 ∧ code % 10 ≤ 4 then 1 else 0)))), hS S t) := by
  have e1 := s129 (xs := xs) (L := L) (nI code) (nI 0) (nI (100 * n - 1)) (hS S t)
  rw [inI_1 hc (by decide) (by omega)] at e1
  have e2 := s129 (xs := xs) (L := L) (nI (code % 10)) (nI 1) (nI 4) (hS S t)
  rw [inI_1 (by omega) (by decide) (by decide)] at e2
  have hz : ¬ nI 100 = 0 := by decide
  have hz2 : ¬ nI 10 = 0 := by decide
  have q1 : code - code / 100 * 100 = code % 100 := by omega
  have q2 : code - code / 10 * 10 = code % 10 := by omega
  have q3 : 100 * n - 1 < 2 ^ 31 := by omega
  by_cases h1 : code < 100 * n
  · rw [if_pos (by omega)] at e1
    by_cases h2 : code / 10 % 10 < 2
    · have h2' : code % 100 < 20 := by omega
      by_cases h3 : 1 ≤ code % 10 ∧ code % 10 ≤ 4
      · rw [if_pos h3] at e2
        rw [if_pos ⟨h1, h2, h3⟩]
        simp (config := { decide := false, maxSteps := 1000000 }) (disch := first | assumption | exact nlg_i _ | exact nlg_r _ | exact nlg_n | omega | decide) only [r172_0, r172_1, r172_2, r172_4, r172_5, r172_8, r172_9, r172_10, r172_11, r172_12, r172_13, r172_16, r172_19, r172_20, r172_22, r172_23, r172_25, r172_28, r172_29, r172_31, r172_32, r172_33, r172_34, r172_37, r172_40, r172_41, r172_44, r172_45, st_g0_0, st_g0_1, st_g0_2, st_g0_3, st_g0_4, st_p0_4, st_g0_5, st_p0_5, st_g0_6, st_p0_6, st_g0_7, st_p0_7, st_v0, st_g1_0, st_g1_1, st_g1_2, st_g1_3, st_p1_3, st_v1, st_g7_0, st_g7_1, st_p7_1, st_g7_2, st_p7_2, st_v7, st_i2, st_is2, st_i3, st_is3, st_i4, st_is4, st_i5, st_is5, st_i6, st_is6, st_l8, st_ls8, st_y2, st_y3, st_y4, st_y8, st_o100_0, st_o100_1, st_o100_2, st_o100_3, st_o100_4, st_o100_5, st_o100_6, st_o100_7, st_q100_7, st_o100_8, st_q100_8, st_w100, st_o110_0, st_o110_1, st_w110, st_o129_0, st_o129_1, st_q129_1, st_o129_2, st_q129_2, st_w129, st_o205_0, st_o205_1, st_q205_1, st_o205_2, st_o205_3, st_q205_3, st_o205_4, st_q205_4, st_o205_5, st_q205_5, st_o205_6, st_q205_6, st_o205_7, st_q205_7, st_o205_8, st_q205_8, st_o205_9, st_q205_9, st_w205, st_o235_0, st_o235_1, st_o235_2, st_o235_3, st_o235_4, st_o235_5, st_o235_6, st_o235_7, st_q235_7, st_o235_8, st_q235_8, st_o235_9, st_o235_10, st_q235_10, st_o235_11, st_q235_11, st_o235_12, st_q235_12, st_o235_13, st_q235_13, st_o235_14, st_q235_14, st_o235_15, st_q235_15, st_o235_16, st_q235_16, st_o235_17, st_q235_17, st_o235_18, st_q235_18, st_o235_19, st_o235_20, st_o235_21, st_q235_21, st_o235_22, st_q235_22, st_o235_23, st_o235_24, st_q235_24, st_w235, st_a204, st_as204, st_a206, st_as206, st_a216, st_as216, st_a236, st_as236, st_a237, st_as237, st_a238, st_as238, st_a239, st_as239, st_a240, st_as240, st_a241, st_as241, st_a242, st_as242, st_a243, st_as243, st_a244, st_as244, st_a245, st_as245, st_a246, st_as246, st_r130, st_r203, nx_in, nx_clamp, nx_i2n, nx_l2n, nx_add, nx_sub, nx_pred, nx_mul, nx_lt, nx_le, nx_eq, nx_shl, nx_shr, nx_and1, nx_andm, nx_m1, nx_or, nx_dr, nx_rem, nx_kC, nx_ift, nx_iff, hA0, e1, e2, q1, q2, ↓nif_lt_t, ↓nif_lt_f, ↓nif_le_t, ↓nif_le_f, ↓nif_eq_t, ↓nif_eq_f, ↓nif_ne_t, ↓nif_ne_f, Nat.one_mul, List.cons_append, List.nil_append, List.append_nil, Option.toList, if_true, if_false, Bool.false_eq_true, and_true, true_and, and_self]
      · rw [if_neg h3] at e2
        rw [if_neg (fun z => h3 z.2.2)]
        simp (config := { decide := false, maxSteps := 1000000 }) (disch := first | assumption | exact nlg_i _ | exact nlg_r _ | exact nlg_n | omega | decide) only [r172_0, r172_1, r172_2, r172_4, r172_5, r172_8, r172_9, r172_10, r172_11, r172_12, r172_13, r172_16, r172_19, r172_20, r172_22, r172_23, r172_25, r172_28, r172_29, r172_31, r172_32, r172_33, r172_34, r172_37, r172_40, r172_41, r172_44, r172_45, st_g0_0, st_g0_1, st_g0_2, st_g0_3, st_g0_4, st_p0_4, st_g0_5, st_p0_5, st_g0_6, st_p0_6, st_g0_7, st_p0_7, st_v0, st_g1_0, st_g1_1, st_g1_2, st_g1_3, st_p1_3, st_v1, st_g7_0, st_g7_1, st_p7_1, st_g7_2, st_p7_2, st_v7, st_i2, st_is2, st_i3, st_is3, st_i4, st_is4, st_i5, st_is5, st_i6, st_is6, st_l8, st_ls8, st_y2, st_y3, st_y4, st_y8, st_o100_0, st_o100_1, st_o100_2, st_o100_3, st_o100_4, st_o100_5, st_o100_6, st_o100_7, st_q100_7, st_o100_8, st_q100_8, st_w100, st_o110_0, st_o110_1, st_w110, st_o129_0, st_o129_1, st_q129_1, st_o129_2, st_q129_2, st_w129, st_o205_0, st_o205_1, st_q205_1, st_o205_2, st_o205_3, st_q205_3, st_o205_4, st_q205_4, st_o205_5, st_q205_5, st_o205_6, st_q205_6, st_o205_7, st_q205_7, st_o205_8, st_q205_8, st_o205_9, st_q205_9, st_w205, st_o235_0, st_o235_1, st_o235_2, st_o235_3, st_o235_4, st_o235_5, st_o235_6, st_o235_7, st_q235_7, st_o235_8, st_q235_8, st_o235_9, st_o235_10, st_q235_10, st_o235_11, st_q235_11, st_o235_12, st_q235_12, st_o235_13, st_q235_13, st_o235_14, st_q235_14, st_o235_15, st_q235_15, st_o235_16, st_q235_16, st_o235_17, st_q235_17, st_o235_18, st_q235_18, st_o235_19, st_o235_20, st_o235_21, st_q235_21, st_o235_22, st_q235_22, st_o235_23, st_o235_24, st_q235_24, st_w235, st_a204, st_as204, st_a206, st_as206, st_a216, st_as216, st_a236, st_as236, st_a237, st_as237, st_a238, st_as238, st_a239, st_as239, st_a240, st_as240, st_a241, st_as241, st_a242, st_as242, st_a243, st_as243, st_a244, st_as244, st_a245, st_as245, st_a246, st_as246, st_r130, st_r203, nx_in, nx_clamp, nx_i2n, nx_l2n, nx_add, nx_sub, nx_pred, nx_mul, nx_lt, nx_le, nx_eq, nx_shl, nx_shr, nx_and1, nx_andm, nx_m1, nx_or, nx_dr, nx_rem, nx_kC, nx_ift, nx_iff, hA0, e1, e2, q1, q2, ↓nif_lt_t, ↓nif_lt_f, ↓nif_le_t, ↓nif_le_f, ↓nif_eq_t, ↓nif_eq_f, ↓nif_ne_t, ↓nif_ne_f, Nat.one_mul, List.cons_append, List.nil_append, List.append_nil, Option.toList, if_true, if_false, Bool.false_eq_true, and_true, true_and, and_self]
    · have h2' : 20 ≤ code % 100 := by omega
      rw [if_neg (fun z => h2 z.2.1)]
      simp (config := { decide := false, maxSteps := 1000000 }) (disch := first | assumption | exact nlg_i _ | exact nlg_r _ | exact nlg_n | omega | decide) only [r172_0, r172_1, r172_2, r172_4, r172_5, r172_8, r172_9, r172_10, r172_11, r172_12, r172_13, r172_16, r172_19, r172_20, r172_22, r172_23, r172_25, r172_28, r172_29, r172_31, r172_32, r172_33, r172_34, r172_37, r172_40, r172_41, r172_44, r172_45, st_g0_0, st_g0_1, st_g0_2, st_g0_3, st_g0_4, st_p0_4, st_g0_5, st_p0_5, st_g0_6, st_p0_6, st_g0_7, st_p0_7, st_v0, st_g1_0, st_g1_1, st_g1_2, st_g1_3, st_p1_3, st_v1, st_g7_0, st_g7_1, st_p7_1, st_g7_2, st_p7_2, st_v7, st_i2, st_is2, st_i3, st_is3, st_i4, st_is4, st_i5, st_is5, st_i6, st_is6, st_l8, st_ls8, st_y2, st_y3, st_y4, st_y8, st_o100_0, st_o100_1, st_o100_2, st_o100_3, st_o100_4, st_o100_5, st_o100_6, st_o100_7, st_q100_7, st_o100_8, st_q100_8, st_w100, st_o110_0, st_o110_1, st_w110, st_o129_0, st_o129_1, st_q129_1, st_o129_2, st_q129_2, st_w129, st_o205_0, st_o205_1, st_q205_1, st_o205_2, st_o205_3, st_q205_3, st_o205_4, st_q205_4, st_o205_5, st_q205_5, st_o205_6, st_q205_6, st_o205_7, st_q205_7, st_o205_8, st_q205_8, st_o205_9, st_q205_9, st_w205, st_o235_0, st_o235_1, st_o235_2, st_o235_3, st_o235_4, st_o235_5, st_o235_6, st_o235_7, st_q235_7, st_o235_8, st_q235_8, st_o235_9, st_o235_10, st_q235_10, st_o235_11, st_q235_11, st_o235_12, st_q235_12, st_o235_13, st_q235_13, st_o235_14, st_q235_14, st_o235_15, st_q235_15, st_o235_16, st_q235_16, st_o235_17, st_q235_17, st_o235_18, st_q235_18, st_o235_19, st_o235_20, st_o235_21, st_q235_21, st_o235_22, st_q235_22, st_o235_23, st_o235_24, st_q235_24, st_w235, st_a204, st_as204, st_a206, st_as206, st_a216, st_as216, st_a236, st_as236, st_a237, st_as237, st_a238, st_as238, st_a239, st_as239, st_a240, st_as240, st_a241, st_as241, st_a242, st_as242, st_a243, st_as243, st_a244, st_as244, st_a245, st_as245, st_a246, st_as246, st_r130, st_r203, nx_in, nx_clamp, nx_i2n, nx_l2n, nx_add, nx_sub, nx_pred, nx_mul, nx_lt, nx_le, nx_eq, nx_shl, nx_shr, nx_and1, nx_andm, nx_m1, nx_or, nx_dr, nx_rem, nx_kC, nx_ift, nx_iff, hA0, e1, q1, q2, ↓nif_lt_t, ↓nif_lt_f, ↓nif_le_t, ↓nif_le_f, ↓nif_eq_t, ↓nif_eq_f, ↓nif_ne_t, ↓nif_ne_f, Nat.one_mul, List.cons_append, List.nil_append, List.append_nil, Option.toList, if_true, if_false, Bool.false_eq_true, and_true, true_and, and_self]
  · rw [if_neg (by omega)] at e1
    rw [if_neg (fun z => h1 z.1)]
    simp (config := { decide := false, maxSteps := 1000000 }) (disch := first | assumption | exact nlg_i _ | exact nlg_r _ | exact nlg_n | omega | decide) only [r172_0, r172_1, r172_2, r172_4, r172_5, r172_8, r172_9, r172_10, r172_11, r172_12, r172_13, r172_16, r172_19, r172_20, r172_22, r172_23, r172_25, r172_28, r172_29, r172_31, r172_32, r172_33, r172_34, r172_37, r172_40, r172_41, r172_44, r172_45, st_g0_0, st_g0_1, st_g0_2, st_g0_3, st_g0_4, st_p0_4, st_g0_5, st_p0_5, st_g0_6, st_p0_6, st_g0_7, st_p0_7, st_v0, st_g1_0, st_g1_1, st_g1_2, st_g1_3, st_p1_3, st_v1, st_g7_0, st_g7_1, st_p7_1, st_g7_2, st_p7_2, st_v7, st_i2, st_is2, st_i3, st_is3, st_i4, st_is4, st_i5, st_is5, st_i6, st_is6, st_l8, st_ls8, st_y2, st_y3, st_y4, st_y8, st_o100_0, st_o100_1, st_o100_2, st_o100_3, st_o100_4, st_o100_5, st_o100_6, st_o100_7, st_q100_7, st_o100_8, st_q100_8, st_w100, st_o110_0, st_o110_1, st_w110, st_o129_0, st_o129_1, st_q129_1, st_o129_2, st_q129_2, st_w129, st_o205_0, st_o205_1, st_q205_1, st_o205_2, st_o205_3, st_q205_3, st_o205_4, st_q205_4, st_o205_5, st_q205_5, st_o205_6, st_q205_6, st_o205_7, st_q205_7, st_o205_8, st_q205_8, st_o205_9, st_q205_9, st_w205, st_o235_0, st_o235_1, st_o235_2, st_o235_3, st_o235_4, st_o235_5, st_o235_6, st_o235_7, st_q235_7, st_o235_8, st_q235_8, st_o235_9, st_o235_10, st_q235_10, st_o235_11, st_q235_11, st_o235_12, st_q235_12, st_o235_13, st_q235_13, st_o235_14, st_q235_14, st_o235_15, st_q235_15, st_o235_16, st_q235_16, st_o235_17, st_q235_17, st_o235_18, st_q235_18, st_o235_19, st_o235_20, st_o235_21, st_q235_21, st_o235_22, st_q235_22, st_o235_23, st_o235_24, st_q235_24, st_w235, st_a204, st_as204, st_a206, st_as206, st_a216, st_as216, st_a236, st_as236, st_a237, st_as237, st_a238, st_as238, st_a239, st_as239, st_a240, st_as240, st_a241, st_as241, st_a242, st_as242, st_a243, st_as243, st_a244, st_as244, st_a245, st_as245, st_a246, st_as246, st_r130, st_r203, nx_in, nx_clamp, nx_i2n, nx_l2n, nx_add, nx_sub, nx_pred, nx_mul, nx_lt, nx_le, nx_eq, nx_shl, nx_shr, nx_and1, nx_andm, nx_m1, nx_or, nx_dr, nx_rem, nx_kC, nx_ift, nx_iff, hA0, e1, ↓nif_lt_t, ↓nif_lt_f, ↓nif_le_t, ↓nif_le_f, ↓nif_eq_t, ↓nif_eq_f, ↓nif_ne_t, ↓nif_ne_f, Nat.one_mul, List.cons_append, List.nil_append, List.append_nil, Option.toList, if_true, if_false, Bool.false_eq_true, and_true, true_and, and_self]
theorem s171 (hA0 : S.2.2.1 236 0 = n) (hn : 1 ≤ n ∧ n ≤ 12) (hc : code < 2 ^ 31) : ev xs L 171 0 [.ref 235, .int (nI code)] [] (hS S t) = some (.inl (some (.int (nI (hmv n code)))), hS S t) := by
  have e0 := s172 (xs := xs) (L := L) (S := S) (t := t) hA0 hn hc
  have e1 := s129 (xs := xs) (L := L) (nI code) (nI 2000) (nI (2000 + n - 1)) (hS S t)
  rw [inI_1 hc (by decide) (by omega)] at e1
  have e2 := s129 (xs := xs) (L := L) (nI code) (nI 3000) (nI (3000 + n - 1)) (hS S t)
  rw [inI_1 hc (by decide) (by omega)] at e2
  unfold hmv
  by_cases h3 : 3000 ≤ code
  · rw [if_pos h3]
    rw [if_neg (by omega)] at e0 e1
    by_cases h4 : code - 3000 < n
    · rw [if_pos (by omega)] at e2
      rw [if_pos h4]
      simp (config := { decide := false, maxSteps := 1000000 }) (disch := first | assumption | exact nlg_i _ | exact nlg_r _ | exact nlg_n | omega | decide) only [r171_0, r171_1, r171_2, r171_5, r171_8, r171_9, r171_12, r171_15, r171_16, r171_19, r171_20, r171_21, r171_22, r171_23, r171_24, r171_27, r171_30, r171_31, r171_34, r171_37, r171_38, r171_41, r171_42, r171_43, r171_44, r171_45, r171_46, r171_49, r171_52, r171_53, r171_56, r171_57, st_g0_0, st_g0_1, st_g0_2, st_g0_3, st_g0_4, st_p0_4, st_g0_5, st_p0_5, st_g0_6, st_p0_6, st_g0_7, st_p0_7, st_v0, st_g1_0, st_g1_1, st_g1_2, st_g1_3, st_p1_3, st_v1, st_g7_0, st_g7_1, st_p7_1, st_g7_2, st_p7_2, st_v7, st_i2, st_is2, st_i3, st_is3, st_i4, st_is4, st_i5, st_is5, st_i6, st_is6, st_l8, st_ls8, st_y2, st_y3, st_y4, st_y8, st_o100_0, st_o100_1, st_o100_2, st_o100_3, st_o100_4, st_o100_5, st_o100_6, st_o100_7, st_q100_7, st_o100_8, st_q100_8, st_w100, st_o110_0, st_o110_1, st_w110, st_o129_0, st_o129_1, st_q129_1, st_o129_2, st_q129_2, st_w129, st_o205_0, st_o205_1, st_q205_1, st_o205_2, st_o205_3, st_q205_3, st_o205_4, st_q205_4, st_o205_5, st_q205_5, st_o205_6, st_q205_6, st_o205_7, st_q205_7, st_o205_8, st_q205_8, st_o205_9, st_q205_9, st_w205, st_o235_0, st_o235_1, st_o235_2, st_o235_3, st_o235_4, st_o235_5, st_o235_6, st_o235_7, st_q235_7, st_o235_8, st_q235_8, st_o235_9, st_o235_10, st_q235_10, st_o235_11, st_q235_11, st_o235_12, st_q235_12, st_o235_13, st_q235_13, st_o235_14, st_q235_14, st_o235_15, st_q235_15, st_o235_16, st_q235_16, st_o235_17, st_q235_17, st_o235_18, st_q235_18, st_o235_19, st_o235_20, st_o235_21, st_q235_21, st_o235_22, st_q235_22, st_o235_23, st_o235_24, st_q235_24, st_w235, st_a204, st_as204, st_a206, st_as206, st_a216, st_as216, st_a236, st_as236, st_a237, st_as237, st_a238, st_as238, st_a239, st_as239, st_a240, st_as240, st_a241, st_as241, st_a242, st_as242, st_a243, st_as243, st_a244, st_as244, st_a245, st_as245, st_a246, st_as246, st_r130, st_r203, nx_in, nx_clamp, nx_i2n, nx_l2n, nx_add, nx_sub, nx_pred, nx_mul, nx_lt, nx_le, nx_eq, nx_shl, nx_shr, nx_and1, nx_andm, nx_m1, nx_or, nx_dr, nx_rem, nx_kC, nx_ift, nx_iff, hA0, e0, e1, e2, ↓nif_lt_t, ↓nif_lt_f, ↓nif_le_t, ↓nif_le_f, ↓nif_eq_t, ↓nif_eq_f, ↓nif_ne_t, ↓nif_ne_f, Nat.one_mul, List.cons_append, List.nil_append, List.append_nil, Option.toList, if_true, if_false, Bool.false_eq_true, and_true, true_and, and_self]
    · rw [if_neg (by omega)] at e2
      rw [if_neg h4]
      simp (config := { decide := false, maxSteps := 1000000 }) (disch := first | assumption | exact nlg_i _ | exact nlg_r _ | exact nlg_n | omega | decide) only [r171_0, r171_1, r171_2, r171_5, r171_8, r171_9, r171_12, r171_15, r171_16, r171_19, r171_20, r171_21, r171_22, r171_23, r171_24, r171_27, r171_30, r171_31, r171_34, r171_37, r171_38, r171_41, r171_42, r171_43, r171_44, r171_45, r171_46, r171_49, r171_52, r171_53, r171_56, r171_57, st_g0_0, st_g0_1, st_g0_2, st_g0_3, st_g0_4, st_p0_4, st_g0_5, st_p0_5, st_g0_6, st_p0_6, st_g0_7, st_p0_7, st_v0, st_g1_0, st_g1_1, st_g1_2, st_g1_3, st_p1_3, st_v1, st_g7_0, st_g7_1, st_p7_1, st_g7_2, st_p7_2, st_v7, st_i2, st_is2, st_i3, st_is3, st_i4, st_is4, st_i5, st_is5, st_i6, st_is6, st_l8, st_ls8, st_y2, st_y3, st_y4, st_y8, st_o100_0, st_o100_1, st_o100_2, st_o100_3, st_o100_4, st_o100_5, st_o100_6, st_o100_7, st_q100_7, st_o100_8, st_q100_8, st_w100, st_o110_0, st_o110_1, st_w110, st_o129_0, st_o129_1, st_q129_1, st_o129_2, st_q129_2, st_w129, st_o205_0, st_o205_1, st_q205_1, st_o205_2, st_o205_3, st_q205_3, st_o205_4, st_q205_4, st_o205_5, st_q205_5, st_o205_6, st_q205_6, st_o205_7, st_q205_7, st_o205_8, st_q205_8, st_o205_9, st_q205_9, st_w205, st_o235_0, st_o235_1, st_o235_2, st_o235_3, st_o235_4, st_o235_5, st_o235_6, st_o235_7, st_q235_7, st_o235_8, st_q235_8, st_o235_9, st_o235_10, st_q235_10, st_o235_11, st_q235_11, st_o235_12, st_q235_12, st_o235_13, st_q235_13, st_o235_14, st_q235_14, st_o235_15, st_q235_15, st_o235_16, st_q235_16, st_o235_17, st_q235_17, st_o235_18, st_q235_18, st_o235_19, st_o235_20, st_o235_21, st_q235_21, st_o235_22, st_q235_22, st_o235_23, st_o235_24, st_q235_24, st_w235, st_a204, st_as204, st_a206, st_as206, st_a216, st_as216, st_a236, st_as236, st_a237, st_as237, st_a238, st_as238, st_a239, st_as239, st_a240, st_as240, st_a241, st_as241, st_a242, st_as242, st_a243, st_as243, st_a244, st_as244, st_a245, st_as245, st_a246, st_as246, st_r130, st_r203, nx_in, nx_clamp, nx_i2n, nx_l2n, nx_add, nx_sub, nx_pred, nx_mul, nx_lt, nx_le, nx_eq, nx_shl, nx_shr, nx_and1, nx_andm, nx_m1, nx_or, nx_dr, nx_rem, nx_kC, nx_ift, nx_iff, hA0, e0, e1, e2, ↓nif_lt_t, ↓nif_lt_f, ↓nif_le_t, ↓nif_le_f, ↓nif_eq_t, ↓nif_eq_f, ↓nif_ne_t, ↓nif_ne_f, Nat.one_mul, List.cons_append, List.nil_append, List.append_nil, Option.toList, if_true, if_false, Bool.false_eq_true, and_true, true_and, and_self]
  · rw [if_neg h3]
    rw [if_neg (by omega)] at e2
    by_cases h2 : 2000 ≤ code
    · rw [if_pos h2]
      rw [if_neg (by omega)] at e0
      by_cases h4 : code - 2000 < n
      · rw [if_pos (by omega)] at e1
        rw [if_pos h4]
        simp (config := { decide := false, maxSteps := 1000000 }) (disch := first | assumption | exact nlg_i _ | exact nlg_r _ | exact nlg_n | omega | decide) only [r171_0, r171_1, r171_2, r171_5, r171_8, r171_9, r171_12, r171_15, r171_16, r171_19, r171_20, r171_21, r171_22, r171_23, r171_24, r171_27, r171_30, r171_31, r171_34, r171_37, r171_38, r171_41, r171_42, r171_43, r171_44, r171_45, r171_46, r171_49, r171_52, r171_53, r171_56, r171_57, st_g0_0, st_g0_1, st_g0_2, st_g0_3, st_g0_4, st_p0_4, st_g0_5, st_p0_5, st_g0_6, st_p0_6, st_g0_7, st_p0_7, st_v0, st_g1_0, st_g1_1, st_g1_2, st_g1_3, st_p1_3, st_v1, st_g7_0, st_g7_1, st_p7_1, st_g7_2, st_p7_2, st_v7, st_i2, st_is2, st_i3, st_is3, st_i4, st_is4, st_i5, st_is5, st_i6, st_is6, st_l8, st_ls8, st_y2, st_y3, st_y4, st_y8, st_o100_0, st_o100_1, st_o100_2, st_o100_3, st_o100_4, st_o100_5, st_o100_6, st_o100_7, st_q100_7, st_o100_8, st_q100_8, st_w100, st_o110_0, st_o110_1, st_w110, st_o129_0, st_o129_1, st_q129_1, st_o129_2, st_q129_2, st_w129, st_o205_0, st_o205_1, st_q205_1, st_o205_2, st_o205_3, st_q205_3, st_o205_4, st_q205_4, st_o205_5, st_q205_5, st_o205_6, st_q205_6, st_o205_7, st_q205_7, st_o205_8, st_q205_8, st_o205_9, st_q205_9, st_w205, st_o235_0, st_o235_1, st_o235_2, st_o235_3, st_o235_4, st_o235_5, st_o235_6, st_o235_7, st_q235_7, st_o235_8, st_q235_8, st_o235_9, st_o235_10, st_q235_10, st_o235_11, st_q235_11, st_o235_12, st_q235_12, st_o235_13, st_q235_13, st_o235_14, st_q235_14, st_o235_15, st_q235_15, st_o235_16, st_q235_16, st_o235_17, st_q235_17, st_o235_18, st_q235_18, st_o235_19, st_o235_20, st_o235_21, st_q235_21, st_o235_22, st_q235_22, st_o235_23, st_o235_24, st_q235_24, st_w235, st_a204, st_as204, st_a206, st_as206, st_a216, st_as216, st_a236, st_as236, st_a237, st_as237, st_a238, st_as238, st_a239, st_as239, st_a240, st_as240, st_a241, st_as241, st_a242, st_as242, st_a243, st_as243, st_a244, st_as244, st_a245, st_as245, st_a246, st_as246, st_r130, st_r203, nx_in, nx_clamp, nx_i2n, nx_l2n, nx_add, nx_sub, nx_pred, nx_mul, nx_lt, nx_le, nx_eq, nx_shl, nx_shr, nx_and1, nx_andm, nx_m1, nx_or, nx_dr, nx_rem, nx_kC, nx_ift, nx_iff, hA0, e0, e1, e2, ↓nif_lt_t, ↓nif_lt_f, ↓nif_le_t, ↓nif_le_f, ↓nif_eq_t, ↓nif_eq_f, ↓nif_ne_t, ↓nif_ne_f, Nat.one_mul, List.cons_append, List.nil_append, List.append_nil, Option.toList, if_true, if_false, Bool.false_eq_true, and_true, true_and, and_self]
      · rw [if_neg (by omega)] at e1
        rw [if_neg h4]
        simp (config := { decide := false, maxSteps := 1000000 }) (disch := first | assumption | exact nlg_i _ | exact nlg_r _ | exact nlg_n | omega | decide) only [r171_0, r171_1, r171_2, r171_5, r171_8, r171_9, r171_12, r171_15, r171_16, r171_19, r171_20, r171_21, r171_22, r171_23, r171_24, r171_27, r171_30, r171_31, r171_34, r171_37, r171_38, r171_41, r171_42, r171_43, r171_44, r171_45, r171_46, r171_49, r171_52, r171_53, r171_56, r171_57, st_g0_0, st_g0_1, st_g0_2, st_g0_3, st_g0_4, st_p0_4, st_g0_5, st_p0_5, st_g0_6, st_p0_6, st_g0_7, st_p0_7, st_v0, st_g1_0, st_g1_1, st_g1_2, st_g1_3, st_p1_3, st_v1, st_g7_0, st_g7_1, st_p7_1, st_g7_2, st_p7_2, st_v7, st_i2, st_is2, st_i3, st_is3, st_i4, st_is4, st_i5, st_is5, st_i6, st_is6, st_l8, st_ls8, st_y2, st_y3, st_y4, st_y8, st_o100_0, st_o100_1, st_o100_2, st_o100_3, st_o100_4, st_o100_5, st_o100_6, st_o100_7, st_q100_7, st_o100_8, st_q100_8, st_w100, st_o110_0, st_o110_1, st_w110, st_o129_0, st_o129_1, st_q129_1, st_o129_2, st_q129_2, st_w129, st_o205_0, st_o205_1, st_q205_1, st_o205_2, st_o205_3, st_q205_3, st_o205_4, st_q205_4, st_o205_5, st_q205_5, st_o205_6, st_q205_6, st_o205_7, st_q205_7, st_o205_8, st_q205_8, st_o205_9, st_q205_9, st_w205, st_o235_0, st_o235_1, st_o235_2, st_o235_3, st_o235_4, st_o235_5, st_o235_6, st_o235_7, st_q235_7, st_o235_8, st_q235_8, st_o235_9, st_o235_10, st_q235_10, st_o235_11, st_q235_11, st_o235_12, st_q235_12, st_o235_13, st_q235_13, st_o235_14, st_q235_14, st_o235_15, st_q235_15, st_o235_16, st_q235_16, st_o235_17, st_q235_17, st_o235_18, st_q235_18, st_o235_19, st_o235_20, st_o235_21, st_q235_21, st_o235_22, st_q235_22, st_o235_23, st_o235_24, st_q235_24, st_w235, st_a204, st_as204, st_a206, st_as206, st_a216, st_as216, st_a236, st_as236, st_a237, st_as237, st_a238, st_as238, st_a239, st_as239, st_a240, st_as240, st_a241, st_as241, st_a242, st_as242, st_a243, st_as243, st_a244, st_as244, st_a245, st_as245, st_a246, st_as246, st_r130, st_r203, nx_in, nx_clamp, nx_i2n, nx_l2n, nx_add, nx_sub, nx_pred, nx_mul, nx_lt, nx_le, nx_eq, nx_shl, nx_shr, nx_and1, nx_andm, nx_m1, nx_or, nx_dr, nx_rem, nx_kC, nx_ift, nx_iff, hA0, e0, e1, e2, ↓nif_lt_t, ↓nif_lt_f, ↓nif_le_t, ↓nif_le_f, ↓nif_eq_t, ↓nif_eq_f, ↓nif_ne_t, ↓nif_ne_f, Nat.one_mul, List.cons_append, List.nil_append, List.append_nil, Option.toList, if_true, if_false, Bool.false_eq_true, and_true, true_and, and_self]
    · rw [if_neg h2]
      rw [if_neg (by omega)] at e1
      by_cases h4 : code / 100 < n ∧ code / 10 % 10 < 2 ∧ 1 ≤ code % 10 ∧ code % 10 ≤ 4
      · rw [if_pos (by omega)] at e0
        rw [if_pos h4]
        simp (config := { decide := false, maxSteps := 1000000 }) (disch := first | assumption | exact nlg_i _ | exact nlg_r _ | exact nlg_n | omega | decide) only [r171_0, r171_1, r171_2, r171_5, r171_8, r171_9, r171_12, r171_15, r171_16, r171_19, r171_20, r171_21, r171_22, r171_23, r171_24, r171_27, r171_30, r171_31, r171_34, r171_37, r171_38, r171_41, r171_42, r171_43, r171_44, r171_45, r171_46, r171_49, r171_52, r171_53, r171_56, r171_57, st_g0_0, st_g0_1, st_g0_2, st_g0_3, st_g0_4, st_p0_4, st_g0_5, st_p0_5, st_g0_6, st_p0_6, st_g0_7, st_p0_7, st_v0, st_g1_0, st_g1_1, st_g1_2, st_g1_3, st_p1_3, st_v1, st_g7_0, st_g7_1, st_p7_1, st_g7_2, st_p7_2, st_v7, st_i2, st_is2, st_i3, st_is3, st_i4, st_is4, st_i5, st_is5, st_i6, st_is6, st_l8, st_ls8, st_y2, st_y3, st_y4, st_y8, st_o100_0, st_o100_1, st_o100_2, st_o100_3, st_o100_4, st_o100_5, st_o100_6, st_o100_7, st_q100_7, st_o100_8, st_q100_8, st_w100, st_o110_0, st_o110_1, st_w110, st_o129_0, st_o129_1, st_q129_1, st_o129_2, st_q129_2, st_w129, st_o205_0, st_o205_1, st_q205_1, st_o205_2, st_o205_3, st_q205_3, st_o205_4, st_q205_4, st_o205_5, st_q205_5, st_o205_6, st_q205_6, st_o205_7, st_q205_7, st_o205_8, st_q205_8, st_o205_9, st_q205_9, st_w205, st_o235_0, st_o235_1, st_o235_2, st_o235_3, st_o235_4, st_o235_5, st_o235_6, st_o235_7, st_q235_7, st_o235_8, st_q235_8, st_o235_9, st_o235_10, st_q235_10, st_o235_11, st_q235_11, st_o235_12, st_q235_12, st_o235_13, st_q235_13, st_o235_14, st_q235_14, st_o235_15, st_q235_15, st_o235_16, st_q235_16, st_o235_17, st_q235_17, st_o235_18, st_q235_18, st_o235_19, st_o235_20, st_o235_21, st_q235_21, st_o235_22, st_q235_22, st_o235_23, st_o235_24, st_q235_24, st_w235, st_a204, st_as204, st_a206, st_as206, st_a216, st_as216, st_a236, st_as236, st_a237, st_as237, st_a238, st_as238, st_a239, st_as239, st_a240, st_as240, st_a241, st_as241, st_a242, st_as242, st_a243, st_as243, st_a244, st_as244, st_a245, st_as245, st_a246, st_as246, st_r130, st_r203, nx_in, nx_clamp, nx_i2n, nx_l2n, nx_add, nx_sub, nx_pred, nx_mul, nx_lt, nx_le, nx_eq, nx_shl, nx_shr, nx_and1, nx_andm, nx_m1, nx_or, nx_dr, nx_rem, nx_kC, nx_ift, nx_iff, hA0, e0, e1, e2, ↓nif_lt_t, ↓nif_lt_f, ↓nif_le_t, ↓nif_le_f, ↓nif_eq_t, ↓nif_eq_f, ↓nif_ne_t, ↓nif_ne_f, Nat.one_mul, List.cons_append, List.nil_append, List.append_nil, Option.toList, if_true, if_false, Bool.false_eq_true, and_true, true_and, and_self]
      · rw [if_neg (by omega)] at e0
        rw [if_neg h4]
        simp (config := { decide := false, maxSteps := 1000000 }) (disch := first | assumption | exact nlg_i _ | exact nlg_r _ | exact nlg_n | omega | decide) only [r171_0, r171_1, r171_2, r171_5, r171_8, r171_9, r171_12, r171_15, r171_16, r171_19, r171_20, r171_21, r171_22, r171_23, r171_24, r171_27, r171_30, r171_31, r171_34, r171_37, r171_38, r171_41, r171_42, r171_43, r171_44, r171_45, r171_46, r171_49, r171_52, r171_53, r171_56, r171_57, st_g0_0, st_g0_1, st_g0_2, st_g0_3, st_g0_4, st_p0_4, st_g0_5, st_p0_5, st_g0_6, st_p0_6, st_g0_7, st_p0_7, st_v0, st_g1_0, st_g1_1, st_g1_2, st_g1_3, st_p1_3, st_v1, st_g7_0, st_g7_1, st_p7_1, st_g7_2, st_p7_2, st_v7, st_i2, st_is2, st_i3, st_is3, st_i4, st_is4, st_i5, st_is5, st_i6, st_is6, st_l8, st_ls8, st_y2, st_y3, st_y4, st_y8, st_o100_0, st_o100_1, st_o100_2, st_o100_3, st_o100_4, st_o100_5, st_o100_6, st_o100_7, st_q100_7, st_o100_8, st_q100_8, st_w100, st_o110_0, st_o110_1, st_w110, st_o129_0, st_o129_1, st_q129_1, st_o129_2, st_q129_2, st_w129, st_o205_0, st_o205_1, st_q205_1, st_o205_2, st_o205_3, st_q205_3, st_o205_4, st_q205_4, st_o205_5, st_q205_5, st_o205_6, st_q205_6, st_o205_7, st_q205_7, st_o205_8, st_q205_8, st_o205_9, st_q205_9, st_w205, st_o235_0, st_o235_1, st_o235_2, st_o235_3, st_o235_4, st_o235_5, st_o235_6, st_o235_7, st_q235_7, st_o235_8, st_q235_8, st_o235_9, st_o235_10, st_q235_10, st_o235_11, st_q235_11, st_o235_12, st_q235_12, st_o235_13, st_q235_13, st_o235_14, st_q235_14, st_o235_15, st_q235_15, st_o235_16, st_q235_16, st_o235_17, st_q235_17, st_o235_18, st_q235_18, st_o235_19, st_o235_20, st_o235_21, st_q235_21, st_o235_22, st_q235_22, st_o235_23, st_o235_24, st_q235_24, st_w235, st_a204, st_as204, st_a206, st_as206, st_a216, st_as216, st_a236, st_as236, st_a237, st_as237, st_a238, st_as238, st_a239, st_as239, st_a240, st_as240, st_a241, st_as241, st_a242, st_as242, st_a243, st_as243, st_a244, st_as244, st_a245, st_as245, st_a246, st_as246, st_r130, st_r203, nx_in, nx_clamp, nx_i2n, nx_l2n, nx_add, nx_sub, nx_pred, nx_mul, nx_lt, nx_le, nx_eq, nx_shl, nx_shr, nx_and1, nx_andm, nx_m1, nx_or, nx_dr, nx_rem, nx_kC, nx_ift, nx_iff, hA0, e0, e1, e2, ↓nif_lt_t, ↓nif_lt_f, ↓nif_le_t, ↓nif_le_f, ↓nif_eq_t, ↓nif_eq_f, ↓nif_ne_t, ↓nif_ne_f, Nat.one_mul, List.cons_append, List.nil_append, List.append_nil, Option.toList, if_true, if_false, Bool.false_eq_true, and_true, true_and, and_self]
theorem hmv_1 (hn : n ≤ 12) : hmv n code = 1 ↔ isC n code := by
  unfold hmv isC
  split
  · split <;> omega
  · split
    · split <;> omega
    · split
      · next h => 
        constructor
        · intro _
          omega
        · intro _
          rfl
      · next h =>
        constructor
        · intro z
          omega
        · intro z
          exact absurd z (by omega)
theorem hmv_2 : hmv n code = 0 ∨ hmv n code = 1 := by
  unfold hmv
  split
  · split
    · exact Or.inr rfl
    · exact Or.inl rfl
  · split
    · split
      · exact Or.inr rfl
      · exact Or.inl rfl
    · split
      · exact Or.inr rfl
      · exact Or.inl rfl
theorem isIn_neg {x : Int32} {lo hi : Nat} (hx : x < nI 0) (hlo : lo < 2 ^ 31) : inI x (nI lo) (nI hi) = 0 := by
  unfold inI
  have h : x < nI lo := by
    rw [Int32.lt_iff_toInt_lt, nI_toInt hlo]
    rw [Int32.lt_iff_toInt_lt, nI_toInt (by decide)] at hx
    omega
  rw [if_pos h]
theorem s171n (hA0 : S.2.2.1 236 0 = n) (hn : 1 ≤ n ∧ n ≤ 12) {x : Int32} (hx : x < nI 0) : ev xs L 171 0 [.ref 235, .int x] [] (hS S t) = some (.inl (some (.int (nI 0))), hS S t) := by
  have e0 := s129 (xs := xs) (L := L) x (nI 0) (nI (100 * n - 1)) (hS S t)
  rw [isIn_neg hx (by decide)] at e0
  have e1 := s129 (xs := xs) (L := L) x (nI 2000) (nI (2000 + n - 1)) (hS S t)
  rw [isIn_neg hx (by decide)] at e1
  have e2 := s129 (xs := xs) (L := L) x (nI 3000) (nI (3000 + n - 1)) (hS S t)
  rw [isIn_neg hx (by decide)] at e2
  have e3 : ev xs L 172 0 [.ref 235, .int x] [] (hS S t) = some (.inl (some (.int (nI 0))), hS S t) := by
    simp (config := { decide := false, maxSteps := 1000000 }) (disch := first | assumption | exact nlg_i _ | exact nlg_r _ | exact nlg_n | omega | decide) only [r172_0, r172_1, r172_2, r172_4, r172_5, r172_8, r172_9, r172_10, r172_11, r172_12, r172_13, r172_16, r172_19, r172_20, r172_22, r172_23, r172_25, r172_28, r172_29, r172_31, r172_32, r172_33, r172_34, r172_37, r172_40, r172_41, r172_44, r172_45, st_g0_0, st_g0_1, st_g0_2, st_g0_3, st_g0_4, st_p0_4, st_g0_5, st_p0_5, st_g0_6, st_p0_6, st_g0_7, st_p0_7, st_v0, st_g1_0, st_g1_1, st_g1_2, st_g1_3, st_p1_3, st_v1, st_g7_0, st_g7_1, st_p7_1, st_g7_2, st_p7_2, st_v7, st_i2, st_is2, st_i3, st_is3, st_i4, st_is4, st_i5, st_is5, st_i6, st_is6, st_l8, st_ls8, st_y2, st_y3, st_y4, st_y8, st_o100_0, st_o100_1, st_o100_2, st_o100_3, st_o100_4, st_o100_5, st_o100_6, st_o100_7, st_q100_7, st_o100_8, st_q100_8, st_w100, st_o110_0, st_o110_1, st_w110, st_o129_0, st_o129_1, st_q129_1, st_o129_2, st_q129_2, st_w129, st_o205_0, st_o205_1, st_q205_1, st_o205_2, st_o205_3, st_q205_3, st_o205_4, st_q205_4, st_o205_5, st_q205_5, st_o205_6, st_q205_6, st_o205_7, st_q205_7, st_o205_8, st_q205_8, st_o205_9, st_q205_9, st_w205, st_o235_0, st_o235_1, st_o235_2, st_o235_3, st_o235_4, st_o235_5, st_o235_6, st_o235_7, st_q235_7, st_o235_8, st_q235_8, st_o235_9, st_o235_10, st_q235_10, st_o235_11, st_q235_11, st_o235_12, st_q235_12, st_o235_13, st_q235_13, st_o235_14, st_q235_14, st_o235_15, st_q235_15, st_o235_16, st_q235_16, st_o235_17, st_q235_17, st_o235_18, st_q235_18, st_o235_19, st_o235_20, st_o235_21, st_q235_21, st_o235_22, st_q235_22, st_o235_23, st_o235_24, st_q235_24, st_w235, st_a204, st_as204, st_a206, st_as206, st_a216, st_as216, st_a236, st_as236, st_a237, st_as237, st_a238, st_as238, st_a239, st_as239, st_a240, st_as240, st_a241, st_as241, st_a242, st_as242, st_a243, st_as243, st_a244, st_as244, st_a245, st_as245, st_a246, st_as246, st_r130, st_r203, nx_in, nx_clamp, nx_i2n, nx_l2n, nx_add, nx_sub, nx_pred, nx_mul, nx_lt, nx_le, nx_eq, nx_shl, nx_shr, nx_and1, nx_andm, nx_m1, nx_or, nx_dr, nx_rem, nx_kC, nx_ift, nx_iff, hA0, e0, ↓nif_lt_t, ↓nif_lt_f, ↓nif_le_t, ↓nif_le_f, ↓nif_eq_t, ↓nif_eq_f, ↓nif_ne_t, ↓nif_ne_f, Nat.one_mul, List.cons_append, List.nil_append, List.append_nil, Option.toList, if_true, if_false, Bool.false_eq_true, and_true, true_and, and_self]
  simp (config := { decide := false, maxSteps := 1000000 }) (disch := first | assumption | exact nlg_i _ | exact nlg_r _ | exact nlg_n | omega | decide) only [r171_0, r171_1, r171_2, r171_5, r171_8, r171_9, r171_12, r171_15, r171_16, r171_19, r171_20, r171_21, r171_22, r171_23, r171_24, r171_27, r171_30, r171_31, r171_34, r171_37, r171_38, r171_41, r171_42, r171_43, r171_44, r171_45, r171_46, r171_49, r171_52, r171_53, r171_56, r171_57, st_g0_0, st_g0_1, st_g0_2, st_g0_3, st_g0_4, st_p0_4, st_g0_5, st_p0_5, st_g0_6, st_p0_6, st_g0_7, st_p0_7, st_v0, st_g1_0, st_g1_1, st_g1_2, st_g1_3, st_p1_3, st_v1, st_g7_0, st_g7_1, st_p7_1, st_g7_2, st_p7_2, st_v7, st_i2, st_is2, st_i3, st_is3, st_i4, st_is4, st_i5, st_is5, st_i6, st_is6, st_l8, st_ls8, st_y2, st_y3, st_y4, st_y8, st_o100_0, st_o100_1, st_o100_2, st_o100_3, st_o100_4, st_o100_5, st_o100_6, st_o100_7, st_q100_7, st_o100_8, st_q100_8, st_w100, st_o110_0, st_o110_1, st_w110, st_o129_0, st_o129_1, st_q129_1, st_o129_2, st_q129_2, st_w129, st_o205_0, st_o205_1, st_q205_1, st_o205_2, st_o205_3, st_q205_3, st_o205_4, st_q205_4, st_o205_5, st_q205_5, st_o205_6, st_q205_6, st_o205_7, st_q205_7, st_o205_8, st_q205_8, st_o205_9, st_q205_9, st_w205, st_o235_0, st_o235_1, st_o235_2, st_o235_3, st_o235_4, st_o235_5, st_o235_6, st_o235_7, st_q235_7, st_o235_8, st_q235_8, st_o235_9, st_o235_10, st_q235_10, st_o235_11, st_q235_11, st_o235_12, st_q235_12, st_o235_13, st_q235_13, st_o235_14, st_q235_14, st_o235_15, st_q235_15, st_o235_16, st_q235_16, st_o235_17, st_q235_17, st_o235_18, st_q235_18, st_o235_19, st_o235_20, st_o235_21, st_q235_21, st_o235_22, st_q235_22, st_o235_23, st_o235_24, st_q235_24, st_w235, st_a204, st_as204, st_a206, st_as206, st_a216, st_as216, st_a236, st_as236, st_a237, st_as237, st_a238, st_as238, st_a239, st_as239, st_a240, st_as240, st_a241, st_as241, st_a242, st_as242, st_a243, st_as243, st_a244, st_as244, st_a245, st_as245, st_a246, st_as246, st_r130, st_r203, nx_in, nx_clamp, nx_i2n, nx_l2n, nx_add, nx_sub, nx_pred, nx_mul, nx_lt, nx_le, nx_eq, nx_shl, nx_shr, nx_and1, nx_andm, nx_m1, nx_or, nx_dr, nx_rem, nx_kC, nx_ift, nx_iff, hA0, e3, e1, e2, ↓nif_lt_t, ↓nif_lt_f, ↓nif_le_t, ↓nif_le_f, ↓nif_eq_t, ↓nif_eq_f, ↓nif_ne_t, ↓nif_ne_f, Nat.one_mul, List.cons_append, List.nil_append, List.append_nil, Option.toList, if_true, if_false, Bool.false_eq_true, and_true, true_and, and_self]
theorem s190h (hA0 : S.2.2.1 236 0 = n) (hn : 1 ≤ n ∧ n ≤ 12) {x1 : Value} {y : Nat} (hy : y = 3000 + n ∨ isC n y) (hy2 : y ≤ 3000 + n) : ∀ f x, f + x = y → (∀ z, x ≤ z → z < y → ¬ isC n z) → ev xs L 190 4 [.ref 235, .int (nI v), .int (nI x)] [] (hS S t) = some (.inl (some (.int (nI y))), hS S t) := by
  intro f
  induction f with
  | zero =>
    intro x hx hz
    have e0 : x = y := by omega
    subst e0
    rw [r190_4]
    by_cases h : x < 3000 + n
    · have e1 := s171 (xs := xs) (L := L) (S := S) (t := t) (code := x) hA0 hn (by omega)
      have hC : isC n x := by
        rcases hy with z | z
        · omega
        · exact z
      rw [(hmv_1 hn.2).mpr hC] at e1
      simp (config := { decide := false, maxSteps := 1000000 }) (disch := first | assumption | exact nlg_i _ | exact nlg_r _ | exact nlg_n | omega | decide) only [r190_0, r190_1, r190_2, r190_3, r190_5, r190_8, r190_9, r190_12, r190_13, r190_14, r190_15, r190_18, r190_19, r190_20, r190_23, r190_29, r190_32, r190_33, st_g0_0, st_g0_1, st_g0_2, st_g0_3, st_g0_4, st_p0_4, st_g0_5, st_p0_5, st_g0_6, st_p0_6, st_g0_7, st_p0_7, st_v0, st_g1_0, st_g1_1, st_g1_2, st_g1_3, st_p1_3, st_v1, st_g7_0, st_g7_1, st_p7_1, st_g7_2, st_p7_2, st_v7, st_i2, st_is2, st_i3, st_is3, st_i4, st_is4, st_i5, st_is5, st_i6, st_is6, st_l8, st_ls8, st_y2, st_y3, st_y4, st_y8, st_o100_0, st_o100_1, st_o100_2, st_o100_3, st_o100_4, st_o100_5, st_o100_6, st_o100_7, st_q100_7, st_o100_8, st_q100_8, st_w100, st_o110_0, st_o110_1, st_w110, st_o129_0, st_o129_1, st_q129_1, st_o129_2, st_q129_2, st_w129, st_o205_0, st_o205_1, st_q205_1, st_o205_2, st_o205_3, st_q205_3, st_o205_4, st_q205_4, st_o205_5, st_q205_5, st_o205_6, st_q205_6, st_o205_7, st_q205_7, st_o205_8, st_q205_8, st_o205_9, st_q205_9, st_w205, st_o235_0, st_o235_1, st_o235_2, st_o235_3, st_o235_4, st_o235_5, st_o235_6, st_o235_7, st_q235_7, st_o235_8, st_q235_8, st_o235_9, st_o235_10, st_q235_10, st_o235_11, st_q235_11, st_o235_12, st_q235_12, st_o235_13, st_q235_13, st_o235_14, st_q235_14, st_o235_15, st_q235_15, st_o235_16, st_q235_16, st_o235_17, st_q235_17, st_o235_18, st_q235_18, st_o235_19, st_o235_20, st_o235_21, st_q235_21, st_o235_22, st_q235_22, st_o235_23, st_o235_24, st_q235_24, st_w235, st_a204, st_as204, st_a206, st_as206, st_a216, st_as216, st_a236, st_as236, st_a237, st_as237, st_a238, st_as238, st_a239, st_as239, st_a240, st_as240, st_a241, st_as241, st_a242, st_as242, st_a243, st_as243, st_a244, st_as244, st_a245, st_as245, st_a246, st_as246, st_r130, st_r203, nx_in, nx_clamp, nx_i2n, nx_l2n, nx_add, nx_sub, nx_pred, nx_mul, nx_lt, nx_le, nx_eq, nx_shl, nx_shr, nx_and1, nx_andm, nx_m1, nx_or, nx_dr, nx_rem, nx_kC, nx_ift, nx_iff, hA0, e1, ↓nif_lt_t, ↓nif_lt_f, ↓nif_le_t, ↓nif_le_f, ↓nif_eq_t, ↓nif_eq_f, ↓nif_ne_t, ↓nif_ne_f, Nat.one_mul, List.cons_append, List.nil_append, List.append_nil, Option.toList, if_true, if_false, Bool.false_eq_true, and_true, true_and, and_self]
    · simp (config := { decide := false, maxSteps := 1000000 }) (disch := first | assumption | exact nlg_i _ | exact nlg_r _ | exact nlg_n | omega | decide) only [r190_0, r190_1, r190_2, r190_3, r190_5, r190_8, r190_9, r190_12, r190_13, r190_14, r190_15, r190_19, r190_20, r190_23, r190_26, r190_29, r190_32, r190_33, st_g0_0, st_g0_1, st_g0_2, st_g0_3, st_g0_4, st_p0_4, st_g0_5, st_p0_5, st_g0_6, st_p0_6, st_g0_7, st_p0_7, st_v0, st_g1_0, st_g1_1, st_g1_2, st_g1_3, st_p1_3, st_v1, st_g7_0, st_g7_1, st_p7_1, st_g7_2, st_p7_2, st_v7, st_i2, st_is2, st_i3, st_is3, st_i4, st_is4, st_i5, st_is5, st_i6, st_is6, st_l8, st_ls8, st_y2, st_y3, st_y4, st_y8, st_o100_0, st_o100_1, st_o100_2, st_o100_3, st_o100_4, st_o100_5, st_o100_6, st_o100_7, st_q100_7, st_o100_8, st_q100_8, st_w100, st_o110_0, st_o110_1, st_w110, st_o129_0, st_o129_1, st_q129_1, st_o129_2, st_q129_2, st_w129, st_o205_0, st_o205_1, st_q205_1, st_o205_2, st_o205_3, st_q205_3, st_o205_4, st_q205_4, st_o205_5, st_q205_5, st_o205_6, st_q205_6, st_o205_7, st_q205_7, st_o205_8, st_q205_8, st_o205_9, st_q205_9, st_w205, st_o235_0, st_o235_1, st_o235_2, st_o235_3, st_o235_4, st_o235_5, st_o235_6, st_o235_7, st_q235_7, st_o235_8, st_q235_8, st_o235_9, st_o235_10, st_q235_10, st_o235_11, st_q235_11, st_o235_12, st_q235_12, st_o235_13, st_q235_13, st_o235_14, st_q235_14, st_o235_15, st_q235_15, st_o235_16, st_q235_16, st_o235_17, st_q235_17, st_o235_18, st_q235_18, st_o235_19, st_o235_20, st_o235_21, st_q235_21, st_o235_22, st_q235_22, st_o235_23, st_o235_24, st_q235_24, st_w235, st_a204, st_as204, st_a206, st_as206, st_a216, st_as216, st_a236, st_as236, st_a237, st_as237, st_a238, st_as238, st_a239, st_as239, st_a240, st_as240, st_a241, st_as241, st_a242, st_as242, st_a243, st_as243, st_a244, st_as244, st_a245, st_as245, st_a246, st_as246, st_r130, st_r203, nx_in, nx_clamp, nx_i2n, nx_l2n, nx_add, nx_sub, nx_pred, nx_mul, nx_lt, nx_le, nx_eq, nx_shl, nx_shr, nx_and1, nx_andm, nx_m1, nx_or, nx_dr, nx_rem, nx_kC, nx_ift, nx_iff, hA0, ↓nif_lt_t, ↓nif_lt_f, ↓nif_le_t, ↓nif_le_f, ↓nif_eq_t, ↓nif_eq_f, ↓nif_ne_t, ↓nif_ne_f, Nat.one_mul, List.cons_append, List.nil_append, List.append_nil, Option.toList, if_true, if_false, Bool.false_eq_true, and_true, true_and, and_self]
  | succ f ih =>
    intro x hx hz
    have e2 := ih (x + 1) (by omega) (fun z h1 h2 => hz z (by omega) h2)
    have e1 := s171 (xs := xs) (L := L) (S := S) (t := t) (code := x) hA0 hn (by omega)
    have h0 : hmv n x = 0 := by
      rcases hmv_2 (n := n) (code := x) with z | z
      · exact z
      · exact absurd ((hmv_1 hn.2).mp z) (hz x (Nat.le_refl _) (by omega))
    rw [h0] at e1
    rw [r190_4]
    simp (config := { decide := false, maxSteps := 1000000 }) (disch := first | assumption | exact nlg_i _ | exact nlg_r _ | exact nlg_n | omega | decide) only [r190_0, r190_1, r190_2, r190_3, r190_5, r190_8, r190_9, r190_12, r190_13, r190_14, r190_15, r190_18, r190_19, r190_20, r190_23, r190_26, r190_29, r190_33, st_g0_0, st_g0_1, st_g0_2, st_g0_3, st_g0_4, st_p0_4, st_g0_5, st_p0_5, st_g0_6, st_p0_6, st_g0_7, st_p0_7, st_v0, st_g1_0, st_g1_1, st_g1_2, st_g1_3, st_p1_3, st_v1, st_g7_0, st_g7_1, st_p7_1, st_g7_2, st_p7_2, st_v7, st_i2, st_is2, st_i3, st_is3, st_i4, st_is4, st_i5, st_is5, st_i6, st_is6, st_l8, st_ls8, st_y2, st_y3, st_y4, st_y8, st_o100_0, st_o100_1, st_o100_2, st_o100_3, st_o100_4, st_o100_5, st_o100_6, st_o100_7, st_q100_7, st_o100_8, st_q100_8, st_w100, st_o110_0, st_o110_1, st_w110, st_o129_0, st_o129_1, st_q129_1, st_o129_2, st_q129_2, st_w129, st_o205_0, st_o205_1, st_q205_1, st_o205_2, st_o205_3, st_q205_3, st_o205_4, st_q205_4, st_o205_5, st_q205_5, st_o205_6, st_q205_6, st_o205_7, st_q205_7, st_o205_8, st_q205_8, st_o205_9, st_q205_9, st_w205, st_o235_0, st_o235_1, st_o235_2, st_o235_3, st_o235_4, st_o235_5, st_o235_6, st_o235_7, st_q235_7, st_o235_8, st_q235_8, st_o235_9, st_o235_10, st_q235_10, st_o235_11, st_q235_11, st_o235_12, st_q235_12, st_o235_13, st_q235_13, st_o235_14, st_q235_14, st_o235_15, st_q235_15, st_o235_16, st_q235_16, st_o235_17, st_q235_17, st_o235_18, st_q235_18, st_o235_19, st_o235_20, st_o235_21, st_q235_21, st_o235_22, st_q235_22, st_o235_23, st_o235_24, st_q235_24, st_w235, st_a204, st_as204, st_a206, st_as206, st_a216, st_as216, st_a236, st_as236, st_a237, st_as237, st_a238, st_as238, st_a239, st_as239, st_a240, st_as240, st_a241, st_as241, st_a242, st_as242, st_a243, st_as243, st_a244, st_as244, st_a245, st_as245, st_a246, st_as246, st_r130, st_r203, nx_in, nx_clamp, nx_i2n, nx_l2n, nx_add, nx_sub, nx_pred, nx_mul, nx_lt, nx_le, nx_eq, nx_shl, nx_shr, nx_and1, nx_andm, nx_m1, nx_or, nx_dr, nx_rem, nx_kC, nx_ift, nx_iff, hA0, e1, e2, ↓nif_lt_t, ↓nif_lt_f, ↓nif_le_t, ↓nif_le_f, ↓nif_eq_t, ↓nif_eq_f, ↓nif_ne_t, ↓nif_ne_f, Nat.one_mul, List.cons_append, List.nil_append, List.append_nil, Option.toList, if_true, if_false, Bool.false_eq_true, and_true, true_and, and_self]
/-- the codes follow each other -/
theorem cda_s1 {i q d k : Nat} (hi : i + 1 < 8 * n) (hq : i = 8 * q + 4 * d + k) (hd : d < 2) (hk : k < 3) : cda i n = 100 * q + 10 * d + k + 1 ∧ cda (i + 1) n = 100 * q + 10 * d + k + 2 := by
  unfold cda
  rw [if_pos (show i < 8 * n by omega), if_pos hi, show i / 8 = q by omega, show i / 4 % 2 = d by omega, show i % 4 = k by omega, show (i + 1) / 8 = q by omega, show (i + 1) / 4 % 2 = d by omega, show (i + 1) % 4 = k + 1 by omega]
  omega
theorem cda_s2 {i q : Nat} (hi : i + 1 < 8 * n) (hq : i = 8 * q + 3) : cda i n = 100 * q + 4 ∧ cda (i + 1) n = 100 * q + 11 := by
  unfold cda
  rw [if_pos (show i < 8 * n by omega), if_pos hi, show i / 8 = q by omega, show i / 4 % 2 = 0 by omega, show i % 4 = 3 by omega, show (i + 1) / 8 = q by omega, show (i + 1) / 4 % 2 = 1 by omega, show (i + 1) % 4 = 0 by omega]
  omega
theorem cda_s3 {i q : Nat} (hi : i + 1 < 8 * n) (hq : i = 8 * q + 7) : cda i n = 100 * q + 14 ∧ cda (i + 1) n = 100 * q + 101 := by
  unfold cda
  rw [if_pos (show i < 8 * n by omega), if_pos hi, show i / 8 = q by omega, show i / 4 % 2 = 1 by omega, show i % 4 = 3 by omega, show (i + 1) / 8 = q + 1 by omega, show (i + 1) / 4 % 2 = 0 by omega, show (i + 1) % 4 = 0 by omega]
  omega
theorem cda_s4 {i : Nat} (hi : i + 1 = 8 * n) : cda i n = 100 * (n - 1) + 14 ∧ cda (i + 1) n = if 0 < n then 2000 else 3000 - n := by
  unfold cda
  rw [if_pos (show i < 8 * n by omega), if_neg (show ¬ i + 1 < 8 * n by omega), show i / 8 = n - 1 by omega, show i / 4 % 2 = 1 by omega, show i % 4 = 3 by omega, hi, Nat.sub_self]
  constructor
  · omega
  · split <;> omega
theorem cda_s5 {i : Nat} (hi : 8 * n ≤ i) : cda i n = (if i < 9 * n then 2000 + (i - 8 * n) else 3000 + (i - 9 * n)) ∧ cda (i + 1) n = (if i + 1 < 9 * n then 2000 + (i + 1 - 8 * n) else 3000 + (i + 1 - 9 * n)) := by
  unfold cda
  rw [if_neg (show ¬ i < 8 * n by omega), if_neg (show ¬ i + 1 < 8 * n by omega)]
  constructor
  · split
    · rw [if_pos (by omega)]
    · rw [if_neg (by omega)]
      omega
  · split
    · rw [if_pos (by omega)]
    · rw [if_neg (by omega)]
      omega
theorem cda_gap (hn : n ≤ 12) {i z : Nat} (hi : i < 10 * n) (h1 : cda i n < z) (h2 : z < cda (i + 1) n) : ¬ isC n z := by
  unfold isC
  by_cases a : i + 1 < 8 * n
  · by_cases k3 : i % 4 < 3
    · have e := cda_s1 (n := n) (i := i) (q := i / 8) (d := i / 4 % 2) (k := i % 4) a (by omega) (by omega) k3
      omega
    · by_cases d0 : i / 4 % 2 = 0
      · have e := cda_s2 (n := n) (i := i) (q := i / 8) a (by omega)
        have hq : i / 8 < n := by omega
        generalize i / 8 = q at e hq
        omega
      · have e := cda_s3 (n := n) (i := i) (q := i / 8) a (by omega)
        have hq : i / 8 < n := by omega
        generalize i / 8 = q at e hq
        omega
  · by_cases b : i + 1 = 8 * n
    · have e := cda_s4 b
      rw [if_pos (by omega)] at e
      omega
    · have e := cda_s5 (n := n) (i := i) (by omega)
      rw [e.1] at h1
      rw [e.2] at h2
      split at h1
      · split at h2 <;> omega
      · split at h2 <;> omega
theorem cda_mono (hn : n ≤ 12) {i : Nat} (hi : i < 10 * n) : cda i n < cda (i + 1) n := by
  by_cases a : i + 1 < 8 * n
  · by_cases k3 : i % 4 < 3
    · have e := cda_s1 (n := n) (i := i) (q := i / 8) (d := i / 4 % 2) (k := i % 4) a (by omega) (by omega) k3
      omega
    · by_cases d0 : i / 4 % 2 = 0
      · have e := cda_s2 (n := n) (i := i) (q := i / 8) a (by omega)
        omega
      · have e := cda_s3 (n := n) (i := i) (q := i / 8) a (by omega)
        omega
  · by_cases b : i + 1 = 8 * n
    · have e := cda_s4 b
      rw [if_pos (by omega)] at e
      omega
    · have e := cda_s5 (n := n) (i := i) (by omega)
      rw [e.1, e.2]
      split
      · split <;> omega
      · split <;> omega
theorem cda_end (hn : 4 < n) : cda (10 * n) n = 3000 + n := by
  unfold cda
  rw [if_neg (by omega), if_neg (by omega)]
  omega
theorem cda_0 (hn : 4 < n) : cda 0 n = 1 := by
  unfold cda
  rw [if_pos (by omega)]
theorem cda_le (hn : 4 < n ∧ n ≤ 12) {i : Nat} (hi : i ≤ 10 * n) : cda i n ≤ 3000 + n ∧ (cda i n = 3000 + n ∨ isC n (cda i n)) := by
  by_cases h : i = 10 * n
  · rw [h, cda_end hn.1]
    exact ⟨Nat.le_refl _, Or.inl rfl⟩
  · have hC := cda_C hn.2 hn.1 (show i < 10 * n by omega)
    refine ⟨?_, Or.inr hC⟩
    unfold isC at hC
    omega
/-- the first code -/
theorem s190f (hA0 : S.2.2.1 236 0 = n) (hn : 4 < n ∧ n ≤ 12) : ev xs L 190 0 [.ref 235, .int (-1), .null] [] (hS S t) = some (.inl (some (.int (nI (cda 0 n)))), hS S t) := by
  have e1 := s190h (xs := xs) (L := L) (S := S) (t := t) (v := 4294967295) (x1 := .null) (y := cda 0 n) hA0 ⟨by omega, hn.2⟩ (cda_le hn (Nat.zero_le _)).2 (cda_le hn (Nat.zero_le _)).1 1 0 (by rw [cda_0 hn.1]) (fun z _ h => by
    rw [cda_0 hn.1] at h
    unfold isC
    omega)
  have q1 : (-1 : Int32) + nI 1 = nI 0 := by decide
  have q2 : nI 4294967295 = (-1 : Int32) := by decide
  rw [q2] at e1
  simp (config := { decide := false, maxSteps := 1000000 }) (disch := first | assumption | exact nlg_i _ | exact nlg_r _ | exact nlg_n | omega | decide) only [r190_0, r190_1, r190_2, r190_3, r190_5, r190_8, r190_9, r190_12, r190_13, r190_14, r190_15, r190_18, r190_19, r190_20, r190_23, r190_26, r190_29, r190_32, r190_33, st_g0_0, st_g0_1, st_g0_2, st_g0_3, st_g0_4, st_p0_4, st_g0_5, st_p0_5, st_g0_6, st_p0_6, st_g0_7, st_p0_7, st_v0, st_g1_0, st_g1_1, st_g1_2, st_g1_3, st_p1_3, st_v1, st_g7_0, st_g7_1, st_p7_1, st_g7_2, st_p7_2, st_v7, st_i2, st_is2, st_i3, st_is3, st_i4, st_is4, st_i5, st_is5, st_i6, st_is6, st_l8, st_ls8, st_y2, st_y3, st_y4, st_y8, st_o100_0, st_o100_1, st_o100_2, st_o100_3, st_o100_4, st_o100_5, st_o100_6, st_o100_7, st_q100_7, st_o100_8, st_q100_8, st_w100, st_o110_0, st_o110_1, st_w110, st_o129_0, st_o129_1, st_q129_1, st_o129_2, st_q129_2, st_w129, st_o205_0, st_o205_1, st_q205_1, st_o205_2, st_o205_3, st_q205_3, st_o205_4, st_q205_4, st_o205_5, st_q205_5, st_o205_6, st_q205_6, st_o205_7, st_q205_7, st_o205_8, st_q205_8, st_o205_9, st_q205_9, st_w205, st_o235_0, st_o235_1, st_o235_2, st_o235_3, st_o235_4, st_o235_5, st_o235_6, st_o235_7, st_q235_7, st_o235_8, st_q235_8, st_o235_9, st_o235_10, st_q235_10, st_o235_11, st_q235_11, st_o235_12, st_q235_12, st_o235_13, st_q235_13, st_o235_14, st_q235_14, st_o235_15, st_q235_15, st_o235_16, st_q235_16, st_o235_17, st_q235_17, st_o235_18, st_q235_18, st_o235_19, st_o235_20, st_o235_21, st_q235_21, st_o235_22, st_q235_22, st_o235_23, st_o235_24, st_q235_24, st_w235, st_a204, st_as204, st_a206, st_as206, st_a216, st_as216, st_a236, st_as236, st_a237, st_as237, st_a238, st_as238, st_a239, st_as239, st_a240, st_as240, st_a241, st_as241, st_a242, st_as242, st_a243, st_as243, st_a244, st_as244, st_a245, st_as245, st_a246, st_as246, st_r130, st_r203, nx_in, nx_clamp, nx_i2n, nx_l2n, nx_add, nx_sub, nx_pred, nx_mul, nx_lt, nx_le, nx_eq, nx_shl, nx_shr, nx_and1, nx_andm, nx_m1, nx_or, nx_dr, nx_rem, nx_kC, nx_ift, nx_iff, q1, e1, ↓nif_lt_t, ↓nif_lt_f, ↓nif_le_t, ↓nif_le_f, ↓nif_eq_t, ↓nif_eq_f, ↓nif_ne_t, ↓nif_ne_f, Nat.one_mul, List.cons_append, List.nil_append, List.append_nil, Option.toList, if_true, if_false, Bool.false_eq_true, and_true, true_and, and_self]
theorem s190 (hA0 : S.2.2.1 236 0 = n) (hn : 4 < n ∧ n ≤ 12) {i : Nat} (hi : i < 10 * n) : ev xs L 190 0 [.ref 235, .int (nI (cda i n)), .null] [] (hS S t) = some (.inl (some (.int (nI (cda (i + 1) n)))), hS S t) := by
  have hm := cda_mono hn.2 hi
  have hl := cda_le hn (show i + 1 ≤ 10 * n by omega)
  have e1 := s190h (xs := xs) (L := L) (S := S) (t := t) (v := cda i n) (x1 := .null) (y := cda (i + 1) n) hA0 ⟨by omega, hn.2⟩ hl.2 hl.1 (cda (i + 1) n - (cda i n + 1)) (cda i n + 1) (by omega) (fun z h1 h2 => cda_gap hn.2 hi (by omega) h2)
  simp (config := { decide := false, maxSteps := 1000000 }) (disch := first | assumption | exact nlg_i _ | exact nlg_r _ | exact nlg_n | omega | decide) only [r190_0, r190_1, r190_2, r190_3, r190_5, r190_8, r190_9, r190_12, r190_13, r190_14, r190_15, r190_18, r190_19, r190_20, r190_23, r190_26, r190_29, r190_32, r190_33, st_g0_0, st_g0_1, st_g0_2, st_g0_3, st_g0_4, st_p0_4, st_g0_5, st_p0_5, st_g0_6, st_p0_6, st_g0_7, st_p0_7, st_v0, st_g1_0, st_g1_1, st_g1_2, st_g1_3, st_p1_3, st_v1, st_g7_0, st_g7_1, st_p7_1, st_g7_2, st_p7_2, st_v7, st_i2, st_is2, st_i3, st_is3, st_i4, st_is4, st_i5, st_is5, st_i6, st_is6, st_l8, st_ls8, st_y2, st_y3, st_y4, st_y8, st_o100_0, st_o100_1, st_o100_2, st_o100_3, st_o100_4, st_o100_5, st_o100_6, st_o100_7, st_q100_7, st_o100_8, st_q100_8, st_w100, st_o110_0, st_o110_1, st_w110, st_o129_0, st_o129_1, st_q129_1, st_o129_2, st_q129_2, st_w129, st_o205_0, st_o205_1, st_q205_1, st_o205_2, st_o205_3, st_q205_3, st_o205_4, st_q205_4, st_o205_5, st_q205_5, st_o205_6, st_q205_6, st_o205_7, st_q205_7, st_o205_8, st_q205_8, st_o205_9, st_q205_9, st_w205, st_o235_0, st_o235_1, st_o235_2, st_o235_3, st_o235_4, st_o235_5, st_o235_6, st_o235_7, st_q235_7, st_o235_8, st_q235_8, st_o235_9, st_o235_10, st_q235_10, st_o235_11, st_q235_11, st_o235_12, st_q235_12, st_o235_13, st_q235_13, st_o235_14, st_q235_14, st_o235_15, st_q235_15, st_o235_16, st_q235_16, st_o235_17, st_q235_17, st_o235_18, st_q235_18, st_o235_19, st_o235_20, st_o235_21, st_q235_21, st_o235_22, st_q235_22, st_o235_23, st_o235_24, st_q235_24, st_w235, st_a204, st_as204, st_a206, st_as206, st_a216, st_as216, st_a236, st_as236, st_a237, st_as237, st_a238, st_as238, st_a239, st_as239, st_a240, st_as240, st_a241, st_as241, st_a242, st_as242, st_a243, st_as243, st_a244, st_as244, st_a245, st_as245, st_a246, st_as246, st_r130, st_r203, nx_in, nx_clamp, nx_i2n, nx_l2n, nx_add, nx_sub, nx_pred, nx_mul, nx_lt, nx_le, nx_eq, nx_shl, nx_shr, nx_and1, nx_andm, nx_m1, nx_or, nx_dr, nx_rem, nx_kC, nx_ift, nx_iff, e1, ↓nif_lt_t, ↓nif_lt_f, ↓nif_le_t, ↓nif_le_f, ↓nif_eq_t, ↓nif_eq_f, ↓nif_ne_t, ↓nif_ne_f, Nat.one_mul, List.cons_append, List.nil_append, List.append_nil, Option.toList, if_true, if_false, Bool.false_eq_true, and_true, true_and, and_self]
theorem s171c (hA0 : S.2.2.1 236 0 = n) (hn : 4 < n ∧ n ≤ 12) {i : Nat} (hi : i ≤ 10 * n) : ev xs L 171 0 [.ref 235, .int (nI (cda i n))] [] (hS S t) = some (.inl (some (.int (nI (if i < 10 * n then 1 else 0)))), hS S t) := by
  have hl := cda_le hn hi
  have e1 := s171 (xs := xs) (L := L) (S := S) (t := t) (code := cda i n) hA0 ⟨by omega, hn.2⟩ (by omega)
  by_cases h : i < 10 * n
  · rw [(hmv_1 hn.2).mpr (cda_C hn.2 hn.1 h)] at e1
    rw [if_pos h]
    exact e1
  · have h2 : hmv n (cda i n) = 0 := by
      rcases hmv_2 (n := n) (code := cda i n) with z | z
      · exact z
      · have := (hmv_1 hn.2).mp z
        rw [show i = 10 * n by omega, cda_end hn.1] at this
        unfold isC at this
        omega
    rw [h2] at e1
    rw [if_neg h]
    exact e1
end XCD
