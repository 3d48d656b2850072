section XKE
variable {xs : Nat → Int32} {L : Nat} {S S' : xS} {t : Nat × Nat × Nat} {A B C P H R : Nat → Nat} {ls gv : Int32} {m n c kp nx : Nat} {r r' : xG} {k k' : Nat → Nat}
theorem isG_c (h : c < 8) : isG (131 + 9 * c) = true := by
  have key : ∀ c, c < 8 → isG (131 + 9 * c) = true := by decide
  exact key c h
theorem isG_s (h : c < 2) : isG (217 + 9 * c) = true := by
  have key : ∀ c, c < 2 → isG (217 + 9 * c) = true := by decide
  exact key c h
/-- the class's state behind 'keep' -/
def kpS (S : xS) (nx kp : Nat) : xS := sI (sI (pk S (131 + 9 * nx) (S.1 101) (S.2.1 101)) 129 2 (nI (if nx + 1 < 8 then nx + 1 else 0))) 129 1 (nI (if 8 < kp + 1 then 8 else kp + 1))
theorem s1 (h1 : S.2.2.2.1 129 1 = nI kp) (h2 : S.2.2.2.1 129 2 = nI nx) (hkp : kp ≤ 8) (hnx : nx < 8) (hm : m < 2 ^ 20) (hg : gd m (S.1 101)) (hk : kok (S.2.1 101)) (hj : jk (S.1 (131 + 9 * nx))) (hj2 : kok (S.2.1 (131 + 9 * nx))) : ev xs L 1 0 [.ref 129, .ref 101] [] (hS S t) = some (.inl none, hS (kpS S nx kp) t) := by
  have e1 := s12 (xs := xs) (L := L) (S := S) (t := t) (g := 131 + 9 * nx) (q := 101) (isG_c hnx) (by decide) (by omega) hj.1 hg.2.2.1 (gd_rng hg hm) hj2.1 hk.1
  rw [pg_sKG] at e1
  have f2 : (pk S (131 + 9 * nx) (S.1 101) (S.2.1 101)).2.2.2.1 129 2 = nI nx := h2
  have hGn := isG_c hnx
  unfold kpS
  by_cases a : nx + 1 < 8
  · have f1 : (sI (pk S (131 + 9 * nx) (S.1 101) (S.2.1 101)) 129 2 (nI (nx + 1))).2.2.2.1 129 1 = nI kp := h1
    by_cases b : 8 < kp + 1
    · rw [if_pos a, if_pos b]
      simp (config := { decide := false, maxSteps := 1000000 }) (disch := first | assumption | exact nlg_i _ | exact nlg_r _ | exact nlg_n | omega | decide) only [r1_0, r1_1, r1_4, r1_5, r1_8, r1_9, r1_10, r1_13, r1_14, r1_15, r1_18, r1_19, r1_20, r1_22, r1_25, r1_26, r1_29, r1_30, r1_31, r1_34, r1_35, r1_38, r1_39, r1_40, r1_43, r1_44, r1_45, r1_47, r1_50, r1_53, st_g0_0, st_g0_1, st_g0_2, st_g0_3, st_g0_4, st_p0_4, st_g0_5, st_p0_5, st_g0_6, st_p0_6, st_g0_7, st_p0_7, st_v0, st_g1_0, st_g1_1, st_g1_2, st_g1_3, st_p1_3, st_v1, st_g7_0, st_g7_1, st_p7_1, st_g7_2, st_p7_2, st_v7, st_i2, st_is2, st_i3, st_is3, st_i4, st_is4, st_i5, st_is5, st_i6, st_is6, st_l8, st_ls8, st_y2, st_y3, st_y4, st_y8, st_o100_0, st_o100_1, st_o100_2, st_o100_3, st_o100_4, st_o100_5, st_o100_6, st_o100_7, st_q100_7, st_o100_8, st_q100_8, st_w100, st_o110_0, st_o110_1, st_w110, st_o129_0, st_o129_1, st_q129_1, st_o129_2, st_q129_2, st_w129, st_o205_0, st_o205_1, st_q205_1, st_o205_2, st_o205_3, st_q205_3, st_o205_4, st_q205_4, st_o205_5, st_q205_5, st_o205_6, st_q205_6, st_o205_7, st_q205_7, st_o205_8, st_q205_8, st_o205_9, st_q205_9, st_w205, st_o235_0, st_o235_1, st_o235_2, st_o235_3, st_o235_4, st_o235_5, st_o235_6, st_o235_7, st_q235_7, st_o235_8, st_q235_8, st_o235_9, st_o235_10, st_q235_10, st_o235_11, st_q235_11, st_o235_12, st_q235_12, st_o235_13, st_q235_13, st_o235_14, st_q235_14, st_o235_15, st_q235_15, st_o235_16, st_q235_16, st_o235_17, st_q235_17, st_o235_18, st_q235_18, st_o235_19, st_o235_20, st_o235_21, st_q235_21, st_o235_22, st_q235_22, st_o235_23, st_o235_24, st_q235_24, st_w235, st_a204, st_as204, st_a206, st_as206, st_a216, st_as216, st_a236, st_as236, st_a237, st_as237, st_a238, st_as238, st_a239, st_as239, st_a240, st_as240, st_a241, st_as241, st_a242, st_as242, st_a243, st_as243, st_a244, st_as244, st_a245, st_as245, st_a246, st_as246, st_r130, st_r203, nx_in, nx_clamp, nx_i2n, nx_l2n, nx_add, nx_sub, nx_pred, nx_mul, nx_lt, nx_le, nx_eq, nx_shl, nx_shr, nx_and1, nx_andm, nx_m1, nx_or, nx_dr, nx_rem, nx_kC, nx_ift, nx_iff, h2, e1, f2, f1, ↓nif_lt_t, ↓nif_lt_f, ↓nif_le_t, ↓nif_le_f, ↓nif_eq_t, ↓nif_eq_f, ↓nif_ne_t, ↓nif_ne_f, Nat.one_mul, List.cons_append, List.nil_append, List.append_nil, Option.toList, if_true, if_false, Bool.false_eq_true, and_true, true_and, and_self]
    · rw [if_pos a, if_neg b]
      simp (config := { decide := false, maxSteps := 1000000 }) (disch := first | assumption | exact nlg_i _ | exact nlg_r _ | exact nlg_n | omega | decide) only [r1_0, r1_1, r1_4, r1_5, r1_8, r1_9, r1_10, r1_13, r1_14, r1_15, r1_18, r1_19, r1_20, r1_22, r1_25, r1_26, r1_29, r1_30, r1_31, r1_34, r1_35, r1_38, r1_39, r1_40, r1_43, r1_44, r1_45, r1_47, r1_50, r1_53, st_g0_0, st_g0_1, st_g0_2, st_g0_3, st_g0_4, st_p0_4, st_g0_5, st_p0_5, st_g0_6, st_p0_6, st_g0_7, st_p0_7, st_v0, st_g1_0, st_g1_1, st_g1_2, st_g1_3, st_p1_3, st_v1, st_g7_0, st_g7_1, st_p7_1, st_g7_2, st_p7_2, st_v7, st_i2, st_is2, st_i3, st_is3, st_i4, st_is4, st_i5, st_is5, st_i6, st_is6, st_l8, st_ls8, st_y2, st_y3, st_y4, st_y8, st_o100_0, st_o100_1, st_o100_2, st_o100_3, st_o100_4, st_o100_5, st_o100_6, st_o100_7, st_q100_7, st_o100_8, st_q100_8, st_w100, st_o110_0, st_o110_1, st_w110, st_o129_0, st_o129_1, st_q129_1, st_o129_2, st_q129_2, st_w129, st_o205_0, st_o205_1, st_q205_1, st_o205_2, st_o205_3, st_q205_3, st_o205_4, st_q205_4, st_o205_5, st_q205_5, st_o205_6, st_q205_6, st_o205_7, st_q205_7, st_o205_8, st_q205_8, st_o205_9, st_q205_9, st_w205, st_o235_0, st_o235_1, st_o235_2, st_o235_3, st_o235_4, st_o235_5, st_o235_6, st_o235_7, st_q235_7, st_o235_8, st_q235_8, st_o235_9, st_o235_10, st_q235_10, st_o235_11, st_q235_11, st_o235_12, st_q235_12, st_o235_13, st_q235_13, st_o235_14, st_q235_14, st_o235_15, st_q235_15, st_o235_16, st_q235_16, st_o235_17, st_q235_17, st_o235_18, st_q235_18, st_o235_19, st_o235_20, st_o235_21, st_q235_21, st_o235_22, st_q235_22, st_o235_23, st_o235_24, st_q235_24, st_w235, st_a204, st_as204, st_a206, st_as206, st_a216, st_as216, st_a236, st_as236, st_a237, st_as237, st_a238, st_as238, st_a239, st_as239, st_a240, st_as240, st_a241, st_as241, st_a242, st_as242, st_a243, st_as243, st_a244, st_as244, st_a245, st_as245, st_a246, st_as246, st_r130, st_r203, nx_in, nx_clamp, nx_i2n, nx_l2n, nx_add, nx_sub, nx_pred, nx_mul, nx_lt, nx_le, nx_eq, nx_shl, nx_shr, nx_and1, nx_andm, nx_m1, nx_or, nx_dr, nx_rem, nx_kC, nx_ift, nx_iff, h2, e1, f2, f1, ↓nif_lt_t, ↓nif_lt_f, ↓nif_le_t, ↓nif_le_f, ↓nif_eq_t, ↓nif_eq_f, ↓nif_ne_t, ↓nif_ne_f, Nat.one_mul, List.cons_append, List.nil_append, List.append_nil, Option.toList, if_true, if_false, Bool.false_eq_true, and_true, true_and, and_self]
  · have f1 : (sI (pk S (131 + 9 * nx) (S.1 101) (S.2.1 101)) 129 2 (nI 0)).2.2.2.1 129 1 = nI kp := h1
    by_cases b : 8 < kp + 1
    · rw [if_neg a, if_pos b]
      simp (config := { decide := false, maxSteps := 1000000 }) (disch := first | assumption | exact nlg_i _ | exact nlg_r _ | exact nlg_n | omega | decide) only [r1_0, r1_1, r1_4, r1_5, r1_8, r1_9, r1_10, r1_13, r1_14, r1_15, r1_18, r1_19, r1_20, r1_22, r1_25, r1_26, r1_29, r1_30, r1_31, r1_34, r1_35, r1_38, r1_39, r1_40, r1_43, r1_44, r1_45, r1_47, r1_50, r1_53, st_g0_0, st_g0_1, st_g0_2, st_g0_3, st_g0_4, st_p0_4, st_g0_5, st_p0_5, st_g0_6, st_p0_6, st_g0_7, st_p0_7, st_v0, st_g1_0, st_g1_1, st_g1_2, st_g1_3, st_p1_3, st_v1, st_g7_0, st_g7_1, st_p7_1, st_g7_2, st_p7_2, st_v7, st_i2, st_is2, st_i3, st_is3, st_i4, st_is4, st_i5, st_is5, st_i6, st_is6, st_l8, st_ls8, st_y2, st_y3, st_y4, st_y8, st_o100_0, st_o100_1, st_o100_2, st_o100_3, st_o100_4, st_o100_5, st_o100_6, st_o100_7, st_q100_7, st_o100_8, st_q100_8, st_w100, st_o110_0, st_o110_1, st_w110, st_o129_0, st_o129_1, st_q129_1, st_o129_2, st_q129_2, st_w129, st_o205_0, st_o205_1, st_q205_1, st_o205_2, st_o205_3, st_q205_3, st_o205_4, st_q205_4, st_o205_5, st_q205_5, st_o205_6, st_q205_6, st_o205_7, st_q205_7, st_o205_8, st_q205_8, st_o205_9, st_q205_9, st_w205, st_o235_0, st_o235_1, st_o235_2, st_o235_3, st_o235_4, st_o235_5, st_o235_6, st_o235_7, st_q235_7, st_o235_8, st_q235_8, st_o235_9, st_o235_10, st_q235_10, st_o235_11, st_q235_11, st_o235_12, st_q235_12, st_o235_13, st_q235_13, st_o235_14, st_q235_14, st_o235_15, st_q235_15, st_o235_16, st_q235_16, st_o235_17, st_q235_17, st_o235_18, st_q235_18, st_o235_19, st_o235_20, st_o235_21, st_q235_21, st_o235_22, st_q235_22, st_o235_23, st_o235_24, st_q235_24, st_w235, st_a204, st_as204, st_a206, st_as206, st_a216, st_as216, st_a236, st_as236, st_a237, st_as237, st_a238, st_as238, st_a239, st_as239, st_a240, st_as240, st_a241, st_as241, st_a242, st_as242, st_a243, st_as243, st_a244, st_as244, st_a245, st_as245, st_a246, st_as246, st_r130, st_r203, nx_in, nx_clamp, nx_i2n, nx_l2n, nx_add, nx_sub, nx_pred, nx_mul, nx_lt, nx_le, nx_eq, nx_shl, nx_shr, nx_and1, nx_andm, nx_m1, nx_or, nx_dr, nx_rem, nx_kC, nx_ift, nx_iff, h2, e1, f2, f1, ↓nif_lt_t, ↓nif_lt_f, ↓nif_le_t, ↓nif_le_f, ↓nif_eq_t, ↓nif_eq_f, ↓nif_ne_t, ↓nif_ne_f, Nat.one_mul, List.cons_append, List.nil_append, List.append_nil, Option.toList, if_true, if_false, Bool.false_eq_true, and_true, true_and, and_self]
    · rw [if_neg a, if_neg b]
      simp (config := { decide := false, maxSteps := 1000000 }) (disch := first | assumption | exact nlg_i _ | exact nlg_r _ | exact nlg_n | omega | decide) only [r1_0, r1_1, r1_4, r1_5, r1_8, r1_9, r1_10, r1_13, r1_14, r1_15, r1_18, r1_19, r1_20, r1_22, r1_25, r1_26, r1_29, r1_30, r1_31, r1_34, r1_35, r1_38, r1_39, r1_40, r1_43, r1_44, r1_45, r1_47, r1_50, r1_53, st_g0_0, st_g0_1, st_g0_2, st_g0_3, st_g0_4, st_p0_4, st_g0_5, st_p0_5, st_g0_6, st_p0_6, st_g0_7, st_p0_7, st_v0, st_g1_0, st_g1_1, st_g1_2, st_g1_3, st_p1_3, st_v1, st_g7_0, st_g7_1, st_p7_1, st_g7_2, st_p7_2, st_v7, st_i2, st_is2, st_i3, st_is3, st_i4, st_is4, st_i5, st_is5, st_i6, st_is6, st_l8, st_ls8, st_y2, st_y3, st_y4, st_y8, st_o100_0, st_o100_1, st_o100_2, st_o100_3, st_o100_4, st_o100_5, st_o100_6, st_o100_7, st_q100_7, st_o100_8, st_q100_8, st_w100, st_o110_0, st_o110_1, st_w110, st_o129_0, st_o129_1, st_q129_1, st_o129_2, st_q129_2, st_w129, st_o205_0, st_o205_1, st_q205_1, st_o205_2, st_o205_3, st_q205_3, st_o205_4, st_q205_4, st_o205_5, st_q205_5, st_o205_6, st_q205_6, st_o205_7, st_q205_7, st_o205_8, st_q205_8, st_o205_9, st_q205_9, st_w205, st_o235_0, st_o235_1, st_o235_2, st_o235_3, st_o235_4, st_o235_5, st_o235_6, st_o235_7, st_q235_7, st_o235_8, st_q235_8, st_o235_9, st_o235_10, st_q235_10, st_o235_11, st_q235_11, st_o235_12, st_q235_12, st_o235_13, st_q235_13, st_o235_14, st_q235_14, st_o235_15, st_q235_15, st_o235_16, st_q235_16, st_o235_17, st_q235_17, st_o235_18, st_q235_18, st_o235_19, st_o235_20, st_o235_21, st_q235_21, st_o235_22, st_q235_22, st_o235_23, st_o235_24, st_q235_24, st_w235, st_a204, st_as204, st_a206, st_as206, st_a216, st_as216, st_a236, st_as236, st_a237, st_as237, st_a238, st_as238, st_a239, st_as239, st_a240, st_as240, st_a241, st_as241, st_a242, st_as242, st_a243, st_as243, st_a244, st_as244, st_a245, st_as245, st_a246, st_as246, st_r130, st_r203, nx_in, nx_clamp, nx_i2n, nx_l2n, nx_add, nx_sub, nx_pred, nx_mul, nx_lt, nx_le, nx_eq, nx_shl, nx_shr, nx_and1, nx_andm, nx_m1, nx_or, nx_dr, nx_rem, nx_kC, nx_ift, nx_iff, h2, e1, f2, f1, ↓nif_lt_t, ↓nif_lt_f, ↓nif_le_t, ↓nif_le_f, ↓nif_eq_t, ↓nif_eq_f, ↓nif_ne_t, ↓nif_ne_f, Nat.one_mul, List.cons_append, List.nil_append, List.append_nil, Option.toList, if_true, if_false, Bool.false_eq_true, and_true, true_and, and_self]
/-- a row put into another -/
def put (R : Nat → Nat) (b : Nat) (f : Nat → Nat) (j : Nat) : Nat → Nat := fun x => if b ≤ x ∧ x < b + j then f (x - b) else R x
theorem put_0 (b : Nat) (f : Nat → Nat) : put R b f 0 = R := by
  funext x
  exact if_neg (by omega)
theorem put_s {b j : Nat} {f : Nat → Nat} : upN (put R b f j) (b + j) (f j) = put R b f (j + 1) := by
  funext x
  unfold upN put
  by_cases h : x = b + j
  · rw [if_pos h, if_pos ⟨by omega, by omega⟩, h, Nat.add_sub_cancel_left]
  · rw [if_neg h]
    by_cases h2 : b ≤ x ∧ x < b + j
    · rw [if_pos h2, if_pos ⟨h2.1, by omega⟩]
    · rw [if_neg h2, if_neg (by omega)]
theorem put_i {b j x : Nat} {f : Nat → Nat} (h : x < j) : put R b f j (b + x) = f x := by
  unfold put
  rw [if_pos ⟨by omega, by omega⟩, Nat.add_sub_cancel_left]
theorem put_o {b j x : Nat} {f : Nat → Nat} (h : x < b ∨ b + j ≤ x) : put R b f j x = R x := if_neg (by omega)
theorem sMG_e {id : Nat} {f : Nat → Nat} : (sMG S id f).2.2.1 id = f := if_pos rfl
theorem sMG_n {id id' : Nat} {f : Nat → Nat} (h : id' ≠ id) : (sMG S id f).2.2.1 id' = S.2.2.1 id' := if_neg h
theorem sMG_f {id : Nat} {f : Nat → Nat} : (sMG S id f).2.2.2.1 = S.2.2.2.1 := rfl
theorem sMG_s {id : Nat} {f : Nat → Nat} {i v : Nat} : sM (sMG S id f) id i v = sMG S id (upN f i v) := by
  refine Prod.ext rfl (Prod.ext rfl (Prod.ext ?_ rfl))
  funext id' i'
  show (if id' = id ∧ i' = i then v else (if id' = id then f else S.2.2.1 id') i') = (if id' = id then upN f i v else S.2.2.1 id') i'
  by_cases h : id' = id
  · simp only [h, true_and, if_true]
    rfl
  · simp only [h, false_and, if_false]
theorem sMG_self {id : Nat} : sMG S id (S.2.2.1 id) = S := by
  refine Prod.ext rfl (Prod.ext rfl (Prod.ext ?_ rfl))
  funext id'
  show (if id' = id then S.2.2.1 id else S.2.2.1 id') = S.2.2.1 id'
  split
  · next h => rw [h]
  · rfl
theorem s134a (hR : ∀ x, x < 4592 → R x < 2 ^ 32) : ∀ f j, f + j = 4018 → ev xs L 134 11 [.ref 235, .int (nI j)] [] (hS (sMG S 240 (cpy R 0 574 j)) t) = ev xs L 134 40 [.ref 235, .int (nI 4018)] [] (hS (sMG S 240 (cpy R 0 574 4018)) t) := by
  intro f
  induction f with
  | zero =>
    intro j hj
    have e0 : j = 4018 := by omega
    subst e0
    rw [r134_11]
    simp (config := { decide := false, maxSteps := 1000000 }) (disch := first | assumption | exact nlg_i _ | exact nlg_r _ | exact nlg_n | omega | decide) only [r134_0, r134_1, r134_4, r134_6, r134_9, r134_10, r134_12, r134_15, r134_19, r134_22, r134_23, r134_24, r134_27, r134_28, r134_31, r134_32, r134_33, r134_34, r134_37, r134_41, r134_42, r134_45, r134_46, r134_47, r134_50, r134_51, r134_52, r134_53, r134_56, r134_59, r134_60, r134_63, r134_66, r134_67, r134_70, r134_71, r134_72, r134_73, r134_74, r134_77, r134_78, r134_79, r134_80, r134_83, r134_86, r134_87, r134_88, r134_91, r134_92, r134_93, r134_96, st_g0_0, st_g0_1, st_g0_2, st_g0_3, st_g0_4, st_p0_4, st_g0_5, st_p0_5, st_g0_6, st_p0_6, st_g0_7, st_p0_7, st_v0, st_g1_0, st_g1_1, st_g1_2, st_g1_3, st_p1_3, st_v1, st_g7_0, st_g7_1, st_p7_1, st_g7_2, st_p7_2, st_v7, st_i2, st_is2, st_i3, st_is3, st_i4, st_is4, st_i5, st_is5, st_i6, st_is6, st_l8, st_ls8, st_y2, st_y3, st_y4, st_y8, st_o100_0, st_o100_1, st_o100_2, st_o100_3, st_o100_4, st_o100_5, st_o100_6, st_o100_7, st_q100_7, st_o100_8, st_q100_8, st_w100, st_o110_0, st_o110_1, st_w110, st_o129_0, st_o129_1, st_q129_1, st_o129_2, st_q129_2, st_w129, st_o205_0, st_o205_1, st_q205_1, st_o205_2, st_o205_3, st_q205_3, st_o205_4, st_q205_4, st_o205_5, st_q205_5, st_o205_6, st_q205_6, st_o205_7, st_q205_7, st_o205_8, st_q205_8, st_o205_9, st_q205_9, st_w205, st_o235_0, st_o235_1, st_o235_2, st_o235_3, st_o235_4, st_o235_5, st_o235_6, st_o235_7, st_q235_7, st_o235_8, st_q235_8, st_o235_9, st_o235_10, st_q235_10, st_o235_11, st_q235_11, st_o235_12, st_q235_12, st_o235_13, st_q235_13, st_o235_14, st_q235_14, st_o235_15, st_q235_15, st_o235_16, st_q235_16, st_o235_17, st_q235_17, st_o235_18, st_q235_18, st_o235_19, st_o235_20, st_o235_21, st_q235_21, st_o235_22, st_q235_22, st_o235_23, st_o235_24, st_q235_24, st_w235, st_a204, st_as204, st_a206, st_as206, st_a216, st_as216, st_a236, st_as236, st_a237, st_as237, st_a238, st_as238, st_a239, st_as239, st_a240, st_as240, st_a241, st_as241, st_a242, st_as242, st_a243, st_as243, st_a244, st_as244, st_a245, st_as245, st_a246, st_as246, st_r130, st_r203, nx_in, nx_clamp, nx_i2n, nx_l2n, nx_add, nx_sub, nx_pred, nx_mul, nx_lt, nx_le, nx_eq, nx_shl, nx_shr, nx_and1, nx_andm, nx_m1, nx_or, nx_dr, nx_rem, nx_kC, nx_ift, nx_iff, ↓nif_lt_t, ↓nif_lt_f, ↓nif_le_t, ↓nif_le_f, ↓nif_eq_t, ↓nif_eq_f, ↓nif_ne_t, ↓nif_ne_f, Nat.one_mul, List.cons_append, List.nil_append, List.append_nil, Option.toList, if_true, if_false, Bool.false_eq_true, and_true, true_and, and_self]
  | succ f ih =>
    intro j hj
    have e1 := ih (j + 1) (by omega)
    have e2 : cpy R 0 574 j (574 + j) = R (574 + j) := cpy_o (by omega)
    have e3 := hR (574 + j) (by omega)
    have e4 : j + 574 = 574 + j := by omega
    rw [← cpy_s, Nat.zero_add] at e1
    rw [r134_11]
    simp (config := { decide := false, maxSteps := 1000000 }) (disch := first | assumption | exact nlg_i _ | exact nlg_r _ | exact nlg_n | omega | decide) only [r134_0, r134_1, r134_4, r134_6, r134_9, r134_10, r134_12, r134_15, r134_18, r134_19, r134_22, r134_23, r134_24, r134_27, r134_28, r134_31, r134_32, r134_33, r134_34, r134_37, r134_41, r134_42, r134_45, r134_46, r134_47, r134_50, r134_51, r134_52, r134_53, r134_56, r134_59, r134_60, r134_63, r134_66, r134_67, r134_70, r134_71, r134_72, r134_73, r134_74, r134_77, r134_78, r134_79, r134_80, r134_83, r134_86, r134_87, r134_88, r134_91, r134_92, r134_93, r134_96, st_g0_0, st_g0_1, st_g0_2, st_g0_3, st_g0_4, st_p0_4, st_g0_5, st_p0_5, st_g0_6, st_p0_6, st_g0_7, st_p0_7, st_v0, st_g1_0, st_g1_1, st_g1_2, st_g1_3, st_p1_3, st_v1, st_g7_0, st_g7_1, st_p7_1, st_g7_2, st_p7_2, st_v7, st_i2, st_is2, st_i3, st_is3, st_i4, st_is4, st_i5, st_is5, st_i6, st_is6, st_l8, st_ls8, st_y2, st_y3, st_y4, st_y8, st_o100_0, st_o100_1, st_o100_2, st_o100_3, st_o100_4, st_o100_5, st_o100_6, st_o100_7, st_q100_7, st_o100_8, st_q100_8, st_w100, st_o110_0, st_o110_1, st_w110, st_o129_0, st_o129_1, st_q129_1, st_o129_2, st_q129_2, st_w129, st_o205_0, st_o205_1, st_q205_1, st_o205_2, st_o205_3, st_q205_3, st_o205_4, st_q205_4, st_o205_5, st_q205_5, st_o205_6, st_q205_6, st_o205_7, st_q205_7, st_o205_8, st_q205_8, st_o205_9, st_q205_9, st_w205, st_o235_0, st_o235_1, st_o235_2, st_o235_3, st_o235_4, st_o235_5, st_o235_6, st_o235_7, st_q235_7, st_o235_8, st_q235_8, st_o235_9, st_o235_10, st_q235_10, st_o235_11, st_q235_11, st_o235_12, st_q235_12, st_o235_13, st_q235_13, st_o235_14, st_q235_14, st_o235_15, st_q235_15, st_o235_16, st_q235_16, st_o235_17, st_q235_17, st_o235_18, st_q235_18, st_o235_19, st_o235_20, st_o235_21, st_q235_21, st_o235_22, st_q235_22, st_o235_23, st_o235_24, st_q235_24, st_w235, st_a204, st_as204, st_a206, st_as206, st_a216, st_as216, st_a236, st_as236, st_a237, st_as237, st_a238, st_as238, st_a239, st_as239, st_a240, st_as240, st_a241, st_as241, st_a242, st_as242, st_a243, st_as243, st_a244, st_as244, st_a245, st_as245, st_a246, st_as246, st_r130, st_r203, nx_in, nx_clamp, nx_i2n, nx_l2n, nx_add, nx_sub, nx_pred, nx_mul, nx_lt, nx_le, nx_eq, nx_shl, nx_shr, nx_and1, nx_andm, nx_m1, nx_or, nx_dr, nx_rem, nx_kC, nx_ift, nx_iff, sMG_e, sMG_s, e4, e2, e1, ↓nif_lt_t, ↓nif_lt_f, ↓nif_le_t, ↓nif_le_f, ↓nif_eq_t, ↓nif_eq_f, ↓nif_ne_t, ↓nif_ne_f, Nat.one_mul, List.cons_append, List.nil_append, List.append_nil, Option.toList, if_true, if_false, Bool.false_eq_true, and_true, true_and, and_self]
theorem s134b {b : Nat} (hb : b ≤ 7) (hA : ∀ x, x < 574 → S.2.2.1 236 x < 2 ^ 32) (h7 : S.2.2.2.1 235 7 = nI b) : ∀ f j, f + j = 574 → ev xs L 134 52 [.ref 235, .int (nI j)] [] (hS (sMG S 240 (put R (574 * b) (S.2.2.1 236) j)) t) = some (.inl none, hS (sI (sMG S 240 (put R (574 * b) (S.2.2.1 236) 574)) 235 7 (nI (b + 1))) t) := by
  have h7' : ∀ f, (sMG S 240 f).2.2.2.1 235 7 = nI b := fun _ => h7
  intro f
  induction f with
  | zero =>
    intro j hj
    have e0 : j = 574 := by omega
    subst e0
    rw [r134_52]
    simp (config := { decide := false, maxSteps := 1000000 }) (disch := first | assumption | exact nlg_i _ | exact nlg_r _ | exact nlg_n | omega | decide) only [r134_0, r134_1, r134_4, r134_6, r134_9, r134_10, r134_11, r134_12, r134_15, r134_18, r134_19, r134_22, r134_23, r134_24, r134_27, r134_28, r134_31, r134_32, r134_33, r134_34, r134_37, r134_40, r134_41, r134_42, r134_45, r134_46, r134_47, r134_50, r134_51, r134_53, r134_56, r134_60, r134_63, r134_66, r134_67, r134_70, r134_71, r134_72, r134_73, r134_74, r134_77, r134_78, r134_79, r134_80, r134_83, r134_86, r134_87, r134_88, r134_91, r134_92, r134_93, r134_96, st_g0_0, st_g0_1, st_g0_2, st_g0_3, st_g0_4, st_p0_4, st_g0_5, st_p0_5, st_g0_6, st_p0_6, st_g0_7, st_p0_7, st_v0, st_g1_0, st_g1_1, st_g1_2, st_g1_3, st_p1_3, st_v1, st_g7_0, st_g7_1, st_p7_1, st_g7_2, st_p7_2, st_v7, st_i2, st_is2, st_i3, st_is3, st_i4, st_is4, st_i5, st_is5, st_i6, st_is6, st_l8, st_ls8, st_y2, st_y3, st_y4, st_y8, st_o100_0, st_o100_1, st_o100_2, st_o100_3, st_o100_4, st_o100_5, st_o100_6, st_o100_7, st_q100_7, st_o100_8, st_q100_8, st_w100, st_o110_0, st_o110_1, st_w110, st_o129_0, st_o129_1, st_q129_1, st_o129_2, st_q129_2, st_w129, st_o205_0, st_o205_1, st_q205_1, st_o205_2, st_o205_3, st_q205_3, st_o205_4, st_q205_4, st_o205_5, st_q205_5, st_o205_6, st_q205_6, st_o205_7, st_q205_7, st_o205_8, st_q205_8, st_o205_9, st_q205_9, st_w205, st_o235_0, st_o235_1, st_o235_2, st_o235_3, st_o235_4, st_o235_5, st_o235_6, st_o235_7, st_q235_7, st_o235_8, st_q235_8, st_o235_9, st_o235_10, st_q235_10, st_o235_11, st_q235_11, st_o235_12, st_q235_12, st_o235_13, st_q235_13, st_o235_14, st_q235_14, st_o235_15, st_q235_15, st_o235_16, st_q235_16, st_o235_17, st_q235_17, st_o235_18, st_q235_18, st_o235_19, st_o235_20, st_o235_21, st_q235_21, st_o235_22, st_q235_22, st_o235_23, st_o235_24, st_q235_24, st_w235, st_a204, st_as204, st_a206, st_as206, st_a216, st_as216, st_a236, st_as236, st_a237, st_as237, st_a238, st_as238, st_a239, st_as239, st_a240, st_as240, st_a241, st_as241, st_a242, st_as242, st_a243, st_as243, st_a244, st_as244, st_a245, st_as245, st_a246, st_as246, st_r130, st_r203, nx_in, nx_clamp, nx_i2n, nx_l2n, nx_add, nx_sub, nx_pred, nx_mul, nx_lt, nx_le, nx_eq, nx_shl, nx_shr, nx_and1, nx_andm, nx_m1, nx_or, nx_dr, nx_rem, nx_kC, nx_ift, nx_iff, h7', ↓nif_lt_t, ↓nif_lt_f, ↓nif_le_t, ↓nif_le_f, ↓nif_eq_t, ↓nif_eq_f, ↓nif_ne_t, ↓nif_ne_f, Nat.one_mul, List.cons_append, List.nil_append, List.append_nil, Option.toList, if_true, if_false, Bool.false_eq_true, and_true, true_and, and_self]
  | succ f ih =>
    intro j hj
    have e1 := ih (j + 1) (by omega)
    have e3 := hA j (by omega)
    have e4 : ∀ f, (sMG S 240 f).2.2.1 236 = S.2.2.1 236 := fun f => sMG_n (by decide)
    rw [← put_s] at e1
    rw [r134_52]
    simp (config := { decide := false, maxSteps := 1000000 }) (disch := first | assumption | exact nlg_i _ | exact nlg_r _ | exact nlg_n | omega | decide) only [r134_0, r134_1, r134_4, r134_6, r134_9, r134_10, r134_11, r134_12, r134_15, r134_18, r134_19, r134_22, r134_23, r134_24, r134_27, r134_28, r134_31, r134_32, r134_33, r134_34, r134_37, r134_40, r134_41, r134_42, r134_45, r134_46, r134_47, r134_50, r134_51, r134_53, r134_56, r134_59, r134_60, r134_63, r134_66, r134_67, r134_70, r134_71, r134_72, r134_73, r134_74, r134_77, r134_78, r134_79, r134_80, r134_83, r134_87, r134_88, r134_91, r134_92, r134_93, r134_96, st_g0_0, st_g0_1, st_g0_2, st_g0_3, st_g0_4, st_p0_4, st_g0_5, st_p0_5, st_g0_6, st_p0_6, st_g0_7, st_p0_7, st_v0, st_g1_0, st_g1_1, st_g1_2, st_g1_3, st_p1_3, st_v1, st_g7_0, st_g7_1, st_p7_1, st_g7_2, st_p7_2, st_v7, st_i2, st_is2, st_i3, st_is3, st_i4, st_is4, st_i5, st_is5, st_i6, st_is6, st_l8, st_ls8, st_y2, st_y3, st_y4, st_y8, st_o100_0, st_o100_1, st_o100_2, st_o100_3, st_o100_4, st_o100_5, st_o100_6, st_o100_7, st_q100_7, st_o100_8, st_q100_8, st_w100, st_o110_0, st_o110_1, st_w110, st_o129_0, st_o129_1, st_q129_1, st_o129_2, st_q129_2, st_w129, st_o205_0, st_o205_1, st_q205_1, st_o205_2, st_o205_3, st_q205_3, st_o205_4, st_q205_4, st_o205_5, st_q205_5, st_o205_6, st_q205_6, st_o205_7, st_q205_7, st_o205_8, st_q205_8, st_o205_9, st_q205_9, st_w205, st_o235_0, st_o235_1, st_o235_2, st_o235_3, st_o235_4, st_o235_5, st_o235_6, st_o235_7, st_q235_7, st_o235_8, st_q235_8, st_o235_9, st_o235_10, st_q235_10, st_o235_11, st_q235_11, st_o235_12, st_q235_12, st_o235_13, st_q235_13, st_o235_14, st_q235_14, st_o235_15, st_q235_15, st_o235_16, st_q235_16, st_o235_17, st_q235_17, st_o235_18, st_q235_18, st_o235_19, st_o235_20, st_o235_21, st_q235_21, st_o235_22, st_q235_22, st_o235_23, st_o235_24, st_q235_24, st_w235, st_a204, st_as204, st_a206, st_as206, st_a216, st_as216, st_a236, st_as236, st_a237, st_as237, st_a238, st_as238, st_a239, st_as239, st_a240, st_as240, st_a241, st_as241, st_a242, st_as242, st_a243, st_as243, st_a244, st_as244, st_a245, st_as245, st_a246, st_as246, st_r130, st_r203, nx_in, nx_clamp, nx_i2n, nx_l2n, nx_add, nx_sub, nx_pred, nx_mul, nx_lt, nx_le, nx_eq, nx_shl, nx_shr, nx_and1, nx_andm, nx_m1, nx_or, nx_dr, nx_rem, nx_kC, nx_ift, nx_iff, sMG_e, sMG_s, h7', e4, e1, ↓nif_lt_t, ↓nif_lt_f, ↓nif_le_t, ↓nif_le_f, ↓nif_eq_t, ↓nif_eq_f, ↓nif_ne_t, ↓nif_ne_f, Nat.one_mul, List.cons_append, List.nil_append, List.append_nil, Option.toList, if_true, if_false, Bool.false_eq_true, and_true, true_and, and_self]
/-- the model's row of games behind 'keeps' -/
def keR (R A : Nat → Nat) (kp : Nat) : Nat → Nat := if kp = 8 then put (cpy R 0 574 4018) (574 * 7) A 574 else put R (574 * kp) A 574
def kmS (S : xS) (kp : Nat) : xS := sI (sMG S 240 (keR (S.2.2.1 240) (S.2.2.1 236) kp)) 235 7 (nI (if kp = 8 then 8 else kp + 1))
theorem sMG_sI {id i id' : Nat} {f : Nat → Nat} {v : Int32} : sI (sMG S id f) id' i v = sMG (sI S id' i v) id f := rfl
theorem s134 (h7 : S.2.2.2.1 235 7 = nI kp) (hkp : kp ≤ 8) (hA : ∀ x, x < 574 → S.2.2.1 236 x < 2 ^ 32) (hR : ∀ j, j < kp → ∀ x, x < 574 → S.2.2.1 240 (574 * j + x) < 2 ^ 32) : ev xs L 134 0 [.ref 235, .null] [] (hS S t) = some (.inl none, hS (kmS S kp) t) := by
  unfold kmS keR
  by_cases h : kp = 8
  · subst h
    have e1 := s134a (xs := xs) (L := L) (S := S) (t := t) (R := S.2.2.1 240) (fun x hx => by
      have := hR (x / 574) (by omega) (x % 574) (by omega)
      rw [show 574 * (x / 574) + x % 574 = x by omega] at this
      exact this) 4018 0 rfl
    rw [cpy_0, sMG_self] at e1
    have e2 := s134b (xs := xs) (L := L) (S := sI S 235 7 (nI 7)) (t := t) (R := cpy (S.2.2.1 240) 0 574 4018) (b := 7) (by decide) hA rfl 574 0 rfl
    rw [put_0] at e2
    rw [if_pos rfl, if_pos rfl]
    have h7' : ∀ f, (sMG S 240 f).2.2.2.1 235 7 = nI 8 := fun _ => h7
    simp (config := { decide := false, maxSteps := 1000000 }) (disch := first | assumption | exact nlg_i _ | exact nlg_r _ | exact nlg_n | omega | decide) only [r134_0, r134_1, r134_4, r134_6, r134_9, r134_10, r134_12, r134_15, r134_18, r134_19, r134_22, r134_23, r134_24, r134_27, r134_28, r134_31, r134_32, r134_33, r134_34, r134_37, r134_41, r134_42, r134_45, r134_46, r134_47, r134_50, r134_51, r134_53, r134_56, r134_59, r134_60, r134_63, r134_66, r134_67, r134_70, r134_71, r134_72, r134_73, r134_74, r134_77, r134_78, r134_79, r134_80, r134_83, r134_86, r134_87, r134_88, r134_91, r134_92, r134_93, r134_96, st_g0_0, st_g0_1, st_g0_2, st_g0_3, st_g0_4, st_p0_4, st_g0_5, st_p0_5, st_g0_6, st_p0_6, st_g0_7, st_p0_7, st_v0, st_g1_0, st_g1_1, st_g1_2, st_g1_3, st_p1_3, st_v1, st_g7_0, st_g7_1, st_p7_1, st_g7_2, st_p7_2, st_v7, st_i2, st_is2, st_i3, st_is3, st_i4, st_is4, st_i5, st_is5, st_i6, st_is6, st_l8, st_ls8, st_y2, st_y3, st_y4, st_y8, st_o100_0, st_o100_1, st_o100_2, st_o100_3, st_o100_4, st_o100_5, st_o100_6, st_o100_7, st_q100_7, st_o100_8, st_q100_8, st_w100, st_o110_0, st_o110_1, st_w110, st_o129_0, st_o129_1, st_q129_1, st_o129_2, st_q129_2, st_w129, st_o205_0, st_o205_1, st_q205_1, st_o205_2, st_o205_3, st_q205_3, st_o205_4, st_q205_4, st_o205_5, st_q205_5, st_o205_6, st_q205_6, st_o205_7, st_q205_7, st_o205_8, st_q205_8, st_o205_9, st_q205_9, st_w205, st_o235_0, st_o235_1, st_o235_2, st_o235_3, st_o235_4, st_o235_5, st_o235_6, st_o235_7, st_q235_7, st_o235_8, st_q235_8, st_o235_9, st_o235_10, st_q235_10, st_o235_11, st_q235_11, st_o235_12, st_q235_12, st_o235_13, st_q235_13, st_o235_14, st_q235_14, st_o235_15, st_q235_15, st_o235_16, st_q235_16, st_o235_17, st_q235_17, st_o235_18, st_q235_18, st_o235_19, st_o235_20, st_o235_21, st_q235_21, st_o235_22, st_q235_22, st_o235_23, st_o235_24, st_q235_24, st_w235, st_a204, st_as204, st_a206, st_as206, st_a216, st_as216, st_a236, st_as236, st_a237, st_as237, st_a238, st_as238, st_a239, st_as239, st_a240, st_as240, st_a241, st_as241, st_a242, st_as242, st_a243, st_as243, st_a244, st_as244, st_a245, st_as245, st_a246, st_as246, st_r130, st_r203, nx_in, nx_clamp, nx_i2n, nx_l2n, nx_add, nx_sub, nx_pred, nx_mul, nx_lt, nx_le, nx_eq, nx_shl, nx_shr, nx_and1, nx_andm, nx_m1, nx_or, nx_dr, nx_rem, nx_kC, nx_ift, nx_iff, h7, e1, ↓nif_lt_t, ↓nif_lt_f, ↓nif_le_t, ↓nif_le_f, ↓nif_eq_t, ↓nif_eq_f, ↓nif_ne_t, ↓nif_ne_f, Nat.one_mul, List.cons_append, List.nil_append, List.append_nil, Option.toList, if_true, if_false, Bool.false_eq_true, and_true, true_and, and_self]
    rw [r134_40]
    simp (config := { decide := false, maxSteps := 1000000 }) (disch := first | assumption | exact nlg_i _ | exact nlg_r _ | exact nlg_n | omega | decide) only [r134_0, r134_1, r134_4, r134_6, r134_9, r134_10, r134_12, r134_15, r134_18, r134_19, r134_22, r134_23, r134_24, r134_27, r134_28, r134_31, r134_32, r134_33, r134_34, r134_37, r134_41, r134_42, r134_45, r134_46, r134_47, r134_50, r134_51, r134_53, r134_56, r134_59, r134_60, r134_63, r134_66, r134_67, r134_70, r134_71, r134_72, r134_73, r134_74, r134_77, r134_78, r134_79, r134_80, r134_83, r134_86, r134_87, r134_88, r134_91, r134_92, r134_93, r134_96, st_g0_0, st_g0_1, st_g0_2, st_g0_3, st_g0_4, st_p0_4, st_g0_5, st_p0_5, st_g0_6, st_p0_6, st_g0_7, st_p0_7, st_v0, st_g1_0, st_g1_1, st_g1_2, st_g1_3, st_p1_3, st_v1, st_g7_0, st_g7_1, st_p7_1, st_g7_2, st_p7_2, st_v7, st_i2, st_is2, st_i3, st_is3, st_i4, st_is4, st_i5, st_is5, st_i6, st_is6, st_l8, st_ls8, st_y2, st_y3, st_y4, st_y8, st_o100_0, st_o100_1, st_o100_2, st_o100_3, st_o100_4, st_o100_5, st_o100_6, st_o100_7, st_q100_7, st_o100_8, st_q100_8, st_w100, st_o110_0, st_o110_1, st_w110, st_o129_0, st_o129_1, st_q129_1, st_o129_2, st_q129_2, st_w129, st_o205_0, st_o205_1, st_q205_1, st_o205_2, st_o205_3, st_q205_3, st_o205_4, st_q205_4, st_o205_5, st_q205_5, st_o205_6, st_q205_6, st_o205_7, st_q205_7, st_o205_8, st_q205_8, st_o205_9, st_q205_9, st_w205, st_o235_0, st_o235_1, st_o235_2, st_o235_3, st_o235_4, st_o235_5, st_o235_6, st_o235_7, st_q235_7, st_o235_8, st_q235_8, st_o235_9, st_o235_10, st_q235_10, st_o235_11, st_q235_11, st_o235_12, st_q235_12, st_o235_13, st_q235_13, st_o235_14, st_q235_14, st_o235_15, st_q235_15, st_o235_16, st_q235_16, st_o235_17, st_q235_17, st_o235_18, st_q235_18, st_o235_19, st_o235_20, st_o235_21, st_q235_21, st_o235_22, st_q235_22, st_o235_23, st_o235_24, st_q235_24, st_w235, st_a204, st_as204, st_a206, st_as206, st_a216, st_as216, st_a236, st_as236, st_a237, st_as237, st_a238, st_as238, st_a239, st_as239, st_a240, st_as240, st_a241, st_as241, st_a242, st_as242, st_a243, st_as243, st_a244, st_as244, st_a245, st_as245, st_a246, st_as246, st_r130, st_r203, nx_in, nx_clamp, nx_i2n, nx_l2n, nx_add, nx_sub, nx_pred, nx_mul, nx_lt, nx_le, nx_eq, nx_shl, nx_shr, nx_and1, nx_andm, nx_m1, nx_or, nx_dr, nx_rem, nx_kC, nx_ift, nx_iff, h7', sMG_sI, e2, ↓nif_lt_t, ↓nif_lt_f, ↓nif_le_t, ↓nif_le_f, ↓nif_eq_t, ↓nif_eq_f, ↓nif_ne_t, ↓nif_ne_f, Nat.one_mul, List.cons_append, List.nil_append, List.append_nil, Option.toList, if_true, if_false, Bool.false_eq_true, and_true, true_and, and_self]
    rw [sI_sI]
    rfl
  · have e2 := s134b (xs := xs) (L := L) (S := S) (t := t) (R := S.2.2.1 240) (b := kp) (by omega) hA h7 574 0 rfl
    rw [put_0, sMG_self] at e2
    rw [if_neg h, if_neg h]
    simp (config := { decide := false, maxSteps := 1000000 }) (disch := first | assumption | exact nlg_i _ | exact nlg_r _ | exact nlg_n | omega | decide) only [r134_0, r134_1, r134_4, r134_6, r134_10, r134_12, r134_15, r134_18, r134_19, r134_22, r134_23, r134_24, r134_27, r134_28, r134_31, r134_32, r134_33, r134_34, r134_37, r134_41, r134_42, r134_45, r134_46, r134_47, r134_50, r134_51, r134_53, r134_56, r134_59, r134_60, r134_63, r134_66, r134_67, r134_70, r134_71, r134_72, r134_73, r134_74, r134_77, r134_78, r134_79, r134_80, r134_83, r134_86, r134_87, r134_88, r134_91, r134_92, r134_93, r134_96, st_g0_0, st_g0_1, st_g0_2, st_g0_3, st_g0_4, st_p0_4, st_g0_5, st_p0_5, st_g0_6, st_p0_6, st_g0_7, st_p0_7, st_v0, st_g1_0, st_g1_1, st_g1_2, st_g1_3, st_p1_3, st_v1, st_g7_0, st_g7_1, st_p7_1, st_g7_2, st_p7_2, st_v7, st_i2, st_is2, st_i3, st_is3, st_i4, st_is4, st_i5, st_is5, st_i6, st_is6, st_l8, st_ls8, st_y2, st_y3, st_y4, st_y8, st_o100_0, st_o100_1, st_o100_2, st_o100_3, st_o100_4, st_o100_5, st_o100_6, st_o100_7, st_q100_7, st_o100_8, st_q100_8, st_w100, st_o110_0, st_o110_1, st_w110, st_o129_0, st_o129_1, st_q129_1, st_o129_2, st_q129_2, st_w129, st_o205_0, st_o205_1, st_q205_1, st_o205_2, st_o205_3, st_q205_3, st_o205_4, st_q205_4, st_o205_5, st_q205_5, st_o205_6, st_q205_6, st_o205_7, st_q205_7, st_o205_8, st_q205_8, st_o205_9, st_q205_9, st_w205, st_o235_0, st_o235_1, st_o235_2, st_o235_3, st_o235_4, st_o235_5, st_o235_6, st_o235_7, st_q235_7, st_o235_8, st_q235_8, st_o235_9, st_o235_10, st_q235_10, st_o235_11, st_q235_11, st_o235_12, st_q235_12, st_o235_13, st_q235_13, st_o235_14, st_q235_14, st_o235_15, st_q235_15, st_o235_16, st_q235_16, st_o235_17, st_q235_17, st_o235_18, st_q235_18, st_o235_19, st_o235_20, st_o235_21, st_q235_21, st_o235_22, st_q235_22, st_o235_23, st_o235_24, st_q235_24, st_w235, st_a204, st_as204, st_a206, st_as206, st_a216, st_as216, st_a236, st_as236, st_a237, st_as237, st_a238, st_as238, st_a239, st_as239, st_a240, st_as240, st_a241, st_as241, st_a242, st_as242, st_a243, st_as243, st_a244, st_as244, st_a245, st_as245, st_a246, st_as246, st_r130, st_r203, nx_in, nx_clamp, nx_i2n, nx_l2n, nx_add, nx_sub, nx_pred, nx_mul, nx_lt, nx_le, nx_eq, nx_shl, nx_shr, nx_and1, nx_andm, nx_m1, nx_or, nx_dr, nx_rem, nx_kC, nx_ift, nx_iff, h7, e2, ↓nif_lt_t, ↓nif_lt_f, ↓nif_le_t, ↓nif_le_f, ↓nif_eq_t, ↓nif_eq_f, ↓nif_ne_t, ↓nif_ne_f, Nat.one_mul, List.cons_append, List.nil_append, List.append_nil, Option.toList, if_true, if_false, Bool.false_eq_true, and_true, true_and, and_self]
theorem grel_cg {F G : Nat → Nat} (hn : r 1 3 ≤ 12) (h7 : r 7 1 ≤ 20) (hF : ∀ x, x < 574 → F x = G x) (h : grel G r k) : grel F r k := by
  obtain ⟨⟨q1, q2, q3⟩, ⟨p1, p2, p3⟩, hb⟩ := h
  refine ⟨⟨⟨?_, ?_, ?_, ?_, ?_, ?_, ?_, ?_, ?_⟩, fun c hc => ?_, fun c hc hc2 => ?_⟩, ⟨?_, p2, fun j hj => ?_⟩, fun x hx => by rw [hF x hx]; exact hb x hx⟩
  · rw [hF _ (by omega)]; exact q1.1
  · rw [hF _ (by omega)]; exact q1.2.1
  · rw [hF _ (by omega)]; exact q1.2.2.1
  · rw [hF _ (by omega)]; exact q1.2.2.2.1
  · rw [hF _ (by omega)]; exact q1.2.2.2.2.1
  · rw [hF _ (by omega)]; exact q1.2.2.2.2.2.1
  · rw [hF _ (by omega)]; exact q1.2.2.2.2.2.2.1
  · rw [hF _ (by omega)]; exact q1.2.2.2.2.2.2.2.1
  · rw [hF _ (by omega)]; exact q1.2.2.2.2.2.2.2.2
  · rw [hF _ (by omega), hF _ (by omega)]; exact q2 c hc
  · rw [hF _ (by omega), hF _ (by omega)]; exact q3 c hc hc2
  · rw [hF _ (by omega)]; exact p1
  · obtain ⟨q, g1, g2, g3, g4⟩ := p3 j hj
    exact ⟨q, g1, g2, fun i hi => by rw [hF _ (by omega)]; exact g3 i hi, g4⟩
theorem gI_cg {F G : Nat → Nat} {g : Nat} (hF : ∀ x, x < 574 → F x = G x) (h : gI m S g G) : gI m S g F := ⟨h.1, h.2.1, grel_cg h.1.1.1.2 h.1.1.2.2.2.2.2.1.1 hF h.2.2⟩
/-- behind keep and keeps the changes still agree -/
theorem keep_C (hC0 : ∀ c, c < 8 → jk (S.1 (131 + 9 * c)) ∧ kok (S.2.1 (131 + 9 * c))) (hkp : kp ≤ 8) (hnx : nx < 8) (hg : ∀ j, j < kp → gI m S (cgn nx kp j) (fun x => S.2.2.1 240 (574 * j + x))) (h101 : gI m S 101 A)
    (s1 : S'.1 (131 + 9 * nx) = S.1 101) (s2 : S'.2.1 (131 + 9 * nx) = S.2.1 101) (s3 : ∀ c, c < 8 → c ≠ nx → S'.1 (131 + 9 * c) = S.1 (131 + 9 * c) ∧ S'.2.1 (131 + 9 * c) = S.2.1 (131 + 9 * c)) (s4 : S'.2.2.1 240 = keR (S.2.2.1 240) A kp) (s5 : S'.2.2.2.1 129 1 = nI (if 8 < kp + 1 then 8 else kp + 1)) (s6 : S'.2.2.2.1 129 2 = nI (if nx + 1 < 8 then nx + 1 else 0)) (s7 : S'.2.2.2.1 235 7 = nI (if kp = 8 then 8 else kp + 1)) : iC m S' := by
  have hcg : ∀ nx kp j, cgn nx kp j = 131 + 9 * ((nx + 8 - kp + j) % 8) := fun _ _ _ => rfl
  have tr : ∀ (c : Nat) (F : Nat → Nat), c < 8 → c ≠ nx → gI m S (131 + 9 * c) F → gI m S' (131 + 9 * c) F := by
    intro c F hc hcn h
    unfold gI
    rw [(s3 c hc hcn).1, (s3 c hc hcn).2]
    exact h
  have new : ∀ F : Nat → Nat, (∀ x, x < 574 → F x = A x) → gI m S' (131 + 9 * nx) F := by
    intro F hF
    refine gI_cg hF ?_
    unfold gI
    rw [s1, s2]
    exact h101
  refine ⟨fun c hc => ?_, ?_⟩
  · by_cases hcn : c = nx
    · rw [hcn, s1, s2]
      exact ⟨gd_jk h101.1, h101.2.1⟩
    · rw [(s3 c hc hcn).1, (s3 c hc hcn).2]
      exact hC0 c hc
  · by_cases h8 : kp = 8
    · refine ⟨8, (nx + 1) % 8, Nat.le_refl _, by omega, by rw [s5, if_pos (by omega)], ?_, by rw [s7, if_pos h8], fun j hj => ?_⟩
      · rw [s6]
        congr 1
        split <;> omega
      · have ec : cgn ((nx + 1) % 8) 8 j = 131 + 9 * ((nx + 1 + j) % 8) := by
          rw [hcg]
          congr 2
          omega
        have eR : keR (S.2.2.1 240) A kp = put (cpy (S.2.2.1 240) 0 574 4018) (574 * 7) A 574 := if_pos h8
        rw [s4, ec, eR]
        by_cases hj7 : j = 7
        · rw [show (nx + 1 + j) % 8 = nx by omega]
          refine new _ (fun x hx => ?_)
          rw [hj7]
          exact put_i hx
        · have h9 := hg (j + 1) (by omega)
          rw [hcg, show (nx + 8 - kp + (j + 1)) % 8 = (nx + 1 + j) % 8 by omega] at h9
          refine gI_cg (fun x hx => ?_) (tr _ _ (by omega) (by omega) h9)
          show put (cpy (S.2.2.1 240) 0 574 4018) (574 * 7) A 574 (574 * j + x) = S.2.2.1 240 (574 * (j + 1) + x)
          rw [put_o (by omega), show 574 * j + x = 0 + (574 * j + x) by omega, cpy_i (by omega), show 574 * (j + 1) + x = 574 + (574 * j + x) by omega]
    · refine ⟨kp + 1, (nx + 1) % 8, by omega, by omega, by rw [s5, if_neg (by omega)], ?_, by rw [s7, if_neg h8], fun j hj => ?_⟩
      · rw [s6]
        congr 1
        split <;> omega
      · have ec : cgn ((nx + 1) % 8) (kp + 1) j = 131 + 9 * ((nx + 8 - kp + j) % 8) := by
          rw [hcg]
          congr 2
          omega
        have eR : keR (S.2.2.1 240) A kp = put (S.2.2.1 240) (574 * kp) A 574 := if_neg h8
        rw [s4, ec, eR]
        by_cases hjk : j = kp
        · rw [show (nx + 8 - kp + j) % 8 = nx by omega]
          refine new _ (fun x hx => ?_)
          rw [hjk]
          exact put_i hx
        · have h9 := tr _ _ (by omega) (by omega) (hg j (by omega))
          refine gI_cg (fun x hx => ?_) h9
          show put (S.2.2.1 240) (574 * kp) A 574 (574 * j + x) = S.2.2.1 240 (574 * j + x)
          rw [put_o (by omega)]
/-- behind a change: the game is another one, the old one is kept -/
theorem Inv_chg {A' : Nat → Nat} (hm : m ≤ 512) (hI : Inv m S) (hkp : kp ≤ 8) (hnx : nx < 8) (k1 : S.2.2.2.1 129 1 = nI kp) (k2 : S.2.2.2.1 129 2 = nI nx) (hg : ∀ j, j < kp → gI m S (cgn nx kp j) (fun x => S.2.2.1 240 (574 * j + x)))
    (s1 : S'.1 (131 + 9 * nx) = S.1 101) (s2 : S'.2.1 (131 + 9 * nx) = S.2.1 101) (s3 : ∀ g, g ≠ 131 + 9 * nx → 121 ≤ g → g ≠ 207 → S'.1 g = S.1 g ∧ S'.2.1 g = S.2.1 g) (s4 : S'.2.2.1 240 = keR (S.2.2.1 240) (S.2.2.1 236) kp) (s5 : S'.2.2.2.1 129 1 = nI (if 8 < kp + 1 then 8 else kp + 1)) (s6 : S'.2.2.2.1 129 2 = nI (if nx + 1 < 8 then nx + 1 else 0)) (s7 : S'.2.2.2.1 235 7 = nI (if kp = 8 then 8 else kp + 1))
    (b1 : iB S') (r1 : S'.2.2.1 241 = S.2.2.1 241) (r2 : S'.2.2.1 204 = S.2.2.1 204) (r3 : S'.2.2.1 242 = S.2.2.1 242) (hT : iT S') (hE : S'.2.2.2.1 100 8 = S'.2.2.2.1 235 18) (hW : iW S') (hnew : gI (m + 1) S' 101 (S'.2.2.1 236)) : Inv (m + 1) S' := by
  refine ⟨by omega, hnew, b1, ?_, ?_, hT, hE, hW⟩
  · refine iC_mono (keep_C (S := S) (A := S.2.2.1 236) hI.2.2.2.1.1 hkp hnx hg hI.2.1 s1 s2 (fun c hc hcn => ?_) s4 s5 s6 s7)
    exact s3 _ (by omega) (by omega) (by omega)
  · refine iS_mono (fun i hi => ?_)
    have h1 := s3 (217 + 9 * i) (by omega) (by omega) (by omega)
    have h2 := hI.2.2.2.2.1 i hi
    rw [r1, r2, r3]
    unfold gI
    rw [h1.1, h1.2]
    exact h2
end XKE
