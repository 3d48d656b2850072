section XV2
variable {xs : Nat → Int32} {L : Nat} {S : xS} {t : Nat × Nat × Nat} {O : Nat → Option xi_O} {f : Nat → Int32} {A : Nat → Nat}
def aG (i : Nat) (A : Nat → Nat) : Nat → Nat := fun x => if 9 ≤ x ∧ x < 9 + i then 3 else A x
theorem aG_s {i : Nat} : upN (aG i A) (9 + i) 3 = aG (i + 1) A := by
  funext x
  show (if x = 9 + i then 3 else if 9 ≤ x ∧ x < 9 + i then 3 else A x) = (if 9 ≤ x ∧ x < 9 + (i + 1) then 3 else A x)
  by_cases h : x = 9 + i
  · rw [if_pos h, if_pos (by omega)]
  · rw [if_neg h]
    by_cases h2 : 9 ≤ x ∧ x < 9 + i
    · rw [if_pos h2, if_pos (by omega)]
    · rw [if_neg h2, if_neg (by omega)]
theorem v121c (hO : oM9 O) : ∀ m i, m + i = 5 → ev xs L 121 116 [.ref 235, .int (nI i)] [] (ov O (hS (ms S f (aG i A)) t)) = ev xs L 121 137 [.ref 235, .int (nI 5)] [] (ov O (hS (ms S f (aG 5 A)) t)) := by
  have ⟨o5, o6, o7⟩ := hO
  intro m
  induction m with
  | zero =>
    intro i h
    have hi : i = 5 := by omega
    subst hi
    simp (config := { decide := false, maxSteps := 1000000 }) (disch := first | assumption | exact nlg_i _ | exact nlg_r _ | exact nlg_n | omega | decide) only [r121_116, r121_117, r121_118, st_g0_0, st_g0_1, st_g0_2, st_g0_3, st_g0_4, st_p0_4, st_g0_5, st_p0_5, st_g0_6, st_p0_6, st_g0_7, st_p0_7, st_v0, st_g1_0, st_g1_1, st_g1_2, st_g1_3, st_p1_3, st_v1, st_g7_0, st_g7_1, st_p7_1, st_g7_2, st_p7_2, st_v7, st_i2, st_is2, st_i3, st_is3, st_i4, st_is4, st_i5, st_is5, st_i6, st_is6, st_l8, st_ls8, st_y2, st_y3, st_y4, st_y8, st_o100_0, st_o100_1, st_o100_2, st_o100_3, st_o100_4, st_o100_5, st_o100_6, st_o100_7, st_q100_7, st_o100_8, st_q100_8, st_w100, st_o110_0, st_o110_1, st_w110, st_o129_0, st_o129_1, st_q129_1, st_o129_2, st_q129_2, st_w129, st_o205_0, st_o205_1, st_q205_1, st_o205_2, st_o205_3, st_q205_3, st_o205_4, st_q205_4, st_o205_5, st_q205_5, st_o205_6, st_q205_6, st_o205_7, st_q205_7, st_o205_8, st_q205_8, st_o205_9, st_q205_9, st_w205, st_o235_0, st_o235_1, st_o235_2, st_o235_3, st_o235_4, st_o235_5, st_o235_6, st_o235_7, st_q235_7, st_o235_8, st_q235_8, st_o235_9, st_o235_10, st_q235_10, st_o235_11, st_q235_11, st_o235_12, st_q235_12, st_o235_13, st_q235_13, st_o235_14, st_q235_14, st_o235_15, st_q235_15, st_o235_16, st_q235_16, st_o235_17, st_q235_17, st_o235_18, st_q235_18, st_o235_19, st_o235_20, st_o235_21, st_q235_21, st_o235_22, st_q235_22, st_o235_23, st_o235_24, st_q235_24, st_w235, st_a204, st_as204, st_a206, st_as206, st_a216, st_as216, st_a236, st_as236, st_a237, st_as237, st_a238, st_as238, st_a239, st_as239, st_a240, st_as240, st_a241, st_as241, st_a242, st_as242, st_a243, st_as243, st_a244, st_as244, st_a245, st_as245, st_a246, st_as246, st_r130, st_r203, nx_in, nx_clamp, nx_i2n, nx_l2n, nx_add, nx_sub, nx_pred, nx_mul, nx_lt, nx_le, nx_eq, nx_shl, nx_shr, nx_and1, nx_andm, nx_m1, nx_or, nx_dr, nx_rem, nx_kC, nx_ift, nx_iff, ↓nif_lt_t, ↓nif_lt_f, ↓nif_le_t, ↓nif_le_f, ↓nif_eq_t, ↓nif_eq_f, ↓nif_ne_t, ↓nif_ne_f, Nat.one_mul, List.cons_append, List.nil_append, List.append_nil, Option.toList, if_true, if_false, Bool.false_eq_true, and_true, true_and, and_self]
  | succ m ih =>
    intro i h
    have e1 := ih (i + 1) (by omega)
    rw [← e1, r121_116]
    simp (config := { decide := false, maxSteps := 1000000 }) (disch := first | assumption | exact nlg_i _ | exact nlg_r _ | exact nlg_n | omega | decide) only [r121_117, r121_118, r121_121, r121_122, r121_125, r121_127, r121_128, r121_129, r121_130, r121_131, r121_134, st_g0_0, st_g0_1, st_g0_2, st_g0_3, st_g0_4, st_p0_4, st_g0_5, st_p0_5, st_g0_6, st_p0_6, st_g0_7, st_p0_7, st_v0, st_g1_0, st_g1_1, st_g1_2, st_g1_3, st_p1_3, st_v1, st_g7_0, st_g7_1, st_p7_1, st_g7_2, st_p7_2, st_v7, st_i2, st_is2, st_i3, st_is3, st_i4, st_is4, st_i5, st_is5, st_i6, st_is6, st_l8, st_ls8, st_y2, st_y3, st_y4, st_y8, st_o100_0, st_o100_1, st_o100_2, st_o100_3, st_o100_4, st_o100_5, st_o100_6, st_o100_7, st_q100_7, st_o100_8, st_q100_8, st_w100, st_o110_0, st_o110_1, st_w110, st_o129_0, st_o129_1, st_q129_1, st_o129_2, st_q129_2, st_w129, st_o205_0, st_o205_1, st_q205_1, st_o205_2, st_o205_3, st_q205_3, st_o205_4, st_q205_4, st_o205_5, st_q205_5, st_o205_6, st_q205_6, st_o205_7, st_q205_7, st_o205_8, st_q205_8, st_o205_9, st_q205_9, st_w205, st_o235_0, st_o235_1, st_o235_2, st_o235_3, st_o235_4, st_o235_5, st_o235_6, st_o235_7, st_q235_7, st_o235_8, st_q235_8, st_o235_9, st_o235_10, st_q235_10, st_o235_11, st_q235_11, st_o235_12, st_q235_12, st_o235_13, st_q235_13, st_o235_14, st_q235_14, st_o235_15, st_q235_15, st_o235_16, st_q235_16, st_o235_17, st_q235_17, st_o235_18, st_q235_18, st_o235_19, st_o235_20, st_o235_21, st_q235_21, st_o235_22, st_q235_22, st_o235_23, st_o235_24, st_q235_24, st_w235, st_a204, st_as204, st_a206, st_as206, st_a216, st_as216, st_a236, st_as236, st_a237, st_as237, st_a238, st_as238, st_a239, st_as239, st_a240, st_as240, st_a241, st_as241, st_a242, st_as242, st_a243, st_as243, st_a244, st_as244, st_a245, st_as245, st_a246, st_as246, st_r130, st_r203, nx_in, nx_clamp, nx_i2n, nx_l2n, nx_add, nx_sub, nx_pred, nx_mul, nx_lt, nx_le, nx_eq, nx_shl, nx_shr, nx_and1, nx_andm, nx_m1, nx_or, nx_dr, nx_rem, nx_kC, nx_ift, nx_iff, ov_F, ov_V, ov_I, ov_P, ov_Is, ms_sA, aG_s, ↓nif_lt_t, ↓nif_lt_f, ↓nif_le_t, ↓nif_le_f, ↓nif_eq_t, ↓nif_eq_f, ↓nif_ne_t, ↓nif_ne_f, Nat.one_mul, List.cons_append, List.nil_append, List.append_nil, Option.toList, if_true, if_false, Bool.false_eq_true, and_true, true_and, and_self]
def mA : Nat → Nat := aG 5 (upN (aA (sU.2.2.1 237)) 0 5)
def sY : xS := sMG (ms sU (sU.2.2.2.1 235) mA) 236 (ovl mA (sU.2.2.1 236) 574)
def sV : xS := mw sY (rmA (upN (sY.2.2.1 236) 33 0)) (sY.2.2.1 239) (sY.2.2.1 238) (sY.2.2.1 244) (sY.2.2.1 245) (sY.2.2.2.1 235 21) (sY.2.2.2.1 235 22)
theorem mA_v (x : Nat) : mA x = if 9 ≤ x ∧ x < 14 then 3 else if x = 0 then 5 else if 21 ≤ x ∧ x < 33 then 1 else if x = 6 then 1 else if x = 3 then 5 else if x < 574 then 0 else 0 := rfl
theorem mA_lt : ∀ x, x < 574 → mA x < 2 ^ 32 := by
  intro x hx
  rw [mA_v]
  repeat' split
  all_goals decide
theorem sY_A : ∀ x, x < 574 → sY.2.2.1 236 x = mA x := fun x hx => if_pos hx
theorem v121b : ev xs L 121 103 [.ref 235, .null] [] (ov (Dd 147) (hS sU t)) = some (.inl none, ov (Dd 147) (hS sV t)) := by
  have hO : oM9 (Dd 147) := ⟨rfl, rfl, rfl⟩
  have ⟨o5, o6, o7⟩ := hO
  have e1 := v122 (xs := xs) (L := L) (S := sU) (t := t) (f := sU.2.2.2.1 235) (A := sU.2.2.1 237) hO
  rw [ms_self] at e1
  have e2 := v121c (xs := xs) (L := L) (S := sU) (t := t) (f := sU.2.2.2.1 235) (A := upN (aA (sU.2.2.1 237)) 0 5) hO 5 0 rfl
  rw [show aG 0 (upN (aA (sU.2.2.1 237)) 0 5) = upN (aA (sU.2.2.1 237)) 0 5 by funext x; exact if_neg (by omega)] at e2
  have hmA : aG 5 (upN (aA (sU.2.2.1 237)) 0 5) = mA := rfl
  rw [hmA] at e2
  have e3 := v123 (xs := xs) (L := L) (S := ms sU (sU.2.2.2.1 235) mA) (t := t) hO mA_lt
  have hY : sMG (ms sU (sU.2.2.2.1 235) mA) 236 (ovl ((ms sU (sU.2.2.2.1 235) mA).2.2.1 237) ((ms sU (sU.2.2.2.1 235) mA).2.2.1 236) 574) = sY := rfl
  rw [hY] at e3
  have e4 := v124 (xs := xs) (L := L) (S := sY) (t := t) (A := sY.2.2.1 236) (B := sY.2.2.1 239) (C := sY.2.2.1 238) (P := sY.2.2.1 244) (H := sY.2.2.1 245) (ls := sY.2.2.2.1 235 21) (gv := sY.2.2.2.1 235 22) hO (fun x hx => by rw [sY_A x hx]; exact mA_lt x hx)
  rw [mw_self] at e4
  have hV : mw sY (rmA (upN (sY.2.2.1 236) 33 0)) (sY.2.2.1 239) (sY.2.2.1 238) (sY.2.2.1 244) (sY.2.2.1 245) (sY.2.2.2.1 235 21) (sY.2.2.2.1 235 22) = sV := rfl
  rw [hV] at e4
  have hZ : (0 : Nat) = 0 := rfl
  simp (config := { decide := false, maxSteps := 1000000 }) (disch := first | assumption | exact nlg_i _ | exact nlg_r _ | exact nlg_n | omega | decide) only [r121_103, r121_104, r121_107, r121_108, r121_111, r121_112, r121_113, r121_114, r121_115, r121_137, r121_138, r121_139, r121_142, r121_143, r121_146, r121_147, r121_150, st_g0_0, st_g0_1, st_g0_2, st_g0_3, st_g0_4, st_p0_4, st_g0_5, st_p0_5, st_g0_6, st_p0_6, st_g0_7, st_p0_7, st_v0, st_g1_0, st_g1_1, st_g1_2, st_g1_3, st_p1_3, st_v1, st_g7_0, st_g7_1, st_p7_1, st_g7_2, st_p7_2, st_v7, st_i2, st_is2, st_i3, st_is3, st_i4, st_is4, st_i5, st_is5, st_i6, st_is6, st_l8, st_ls8, st_y2, st_y3, st_y4, st_y8, st_o100_0, st_o100_1, st_o100_2, st_o100_3, st_o100_4, st_o100_5, st_o100_6, st_o100_7, st_q100_7, st_o100_8, st_q100_8, st_w100, st_o110_0, st_o110_1, st_w110, st_o129_0, st_o129_1, st_q129_1, st_o129_2, st_q129_2, st_w129, st_o205_0, st_o205_1, st_q205_1, st_o205_2, st_o205_3, st_q205_3, st_o205_4, st_q205_4, st_o205_5, st_q205_5, st_o205_6, st_q205_6, st_o205_7, st_q205_7, st_o205_8, st_q205_8, st_o205_9, st_q205_9, st_w205, st_o235_0, st_o235_1, st_o235_2, st_o235_3, st_o235_4, st_o235_5, st_o235_6, st_o235_7, st_q235_7, st_o235_8, st_q235_8, st_o235_9, st_o235_10, st_q235_10, st_o235_11, st_q235_11, st_o235_12, st_q235_12, st_o235_13, st_q235_13, st_o235_14, st_q235_14, st_o235_15, st_q235_15, st_o235_16, st_q235_16, st_o235_17, st_q235_17, st_o235_18, st_q235_18, st_o235_19, st_o235_20, st_o235_21, st_q235_21, st_o235_22, st_q235_22, st_o235_23, st_o235_24, st_q235_24, st_w235, st_a204, st_as204, st_a206, st_as206, st_a216, st_as216, st_a236, st_as236, st_a237, st_as237, st_a238, st_as238, st_a239, st_as239, st_a240, st_as240, st_a241, st_as241, st_a242, st_as242, st_a243, st_as243, st_a244, st_as244, st_a245, st_as245, st_a246, st_as246, st_r130, st_r203, nx_in, nx_clamp, nx_i2n, nx_l2n, nx_add, nx_sub, nx_pred, nx_mul, nx_lt, nx_le, nx_eq, nx_shl, nx_shr, nx_and1, nx_andm, nx_m1, nx_or, nx_dr, nx_rem, nx_kC, nx_ift, nx_iff, ov_F, ov_V, ov_I, ov_P, ov_Is, ms_sA, e1, e2, e3, e4, ↓nif_lt_t, ↓nif_lt_f, ↓nif_le_t, ↓nif_le_f, ↓nif_eq_t, ↓nif_eq_f, ↓nif_ne_t, ↓nif_ne_f, Nat.one_mul, List.cons_append, List.nil_append, List.append_nil, Option.toList, if_true, if_false, Bool.false_eq_true, and_true, true_and, and_self]
end XV2
