section XMS
variable {xs : Nat → Int32} {L : Nat} {S : xS} {t : Nat × Nat × Nat} {A B C P H : Nat → Nat} {ls gv : Int32} {n c : Nat} {cap : Nat → Nat}
theorem zb1 {p q h k : Nat} (hk : k < h) : (p + q * 2 ^ h) / 2 ^ k % 2 = p / 2 ^ k % 2 := by
  have h1 : q * 2 ^ h = q * 2 ^ (h - k - 1) * 2 * 2 ^ k := by
    rw [Nat.mul_assoc, Nat.mul_assoc, ← Nat.mul_assoc (2 ^ (h - k - 1)), ← Nat.pow_succ, ← Nat.pow_add]
    congr 2
    omega
  rw [h1, Nat.add_mul_div_right _ _ (Nat.two_pow_pos _), Nat.add_mul_mod_self_right]
theorem zb2 {p q h j : Nat} (hp : p < 2 ^ h) : (p + q * 2 ^ h) / 2 ^ (h + j) % 2 = q / 2 ^ j % 2 := by
  rw [Nat.pow_add, ← Nat.div_div_eq_div_mul, Nat.add_mul_div_right _ _ (Nat.two_pow_pos _), Nat.div_eq_of_lt hp, Nat.zero_add]
theorem zb3 {q e j : Nat} (hj : j < e) : q % 2 ^ e / 2 ^ j % 2 = q / 2 ^ j % 2 := by
  have h1 := zb1 (p := q % 2 ^ e) (q := q / 2 ^ e) hj
  rw [Nat.mul_comm, Nat.mod_add_div] at h1
  exact h1.symm
/-- j places copied -/
def cpy (P : Nat → Nat) (d s j : Nat) : Nat → Nat := fun x => if d ≤ x ∧ x < d + j then P (s + (x - d)) else P x
theorem cpy_0 (d s : Nat) : cpy P d s 0 = P := by
  funext x
  exact if_neg (by omega)
theorem cpy_o {d s j x : Nat} (h : x < d ∨ d + j ≤ x) : cpy P d s j x = P x := if_neg (by omega)
theorem cpy_i {d s j k : Nat} (h : k < j) : cpy P d s j (d + k) = P (s + k) := by
  unfold cpy
  rw [if_pos ⟨by omega, by omega⟩]
  congr 1
  omega
theorem cpy_s {d s j : Nat} : upN (cpy P d s j) (d + j) (P (s + j)) = cpy P d s (j + 1) := by
  funext x
  unfold upN cpy
  by_cases h : x = d + j
  · rw [if_pos h, if_pos ⟨by omega, by omega⟩, h]
    congr 1
    omega
  · rw [if_neg h]
    by_cases h2 : d ≤ x ∧ x < d + j
    · rw [if_pos h2, if_pos ⟨h2.1, by omega⟩]
    · rw [if_neg h2, if_neg (by omega)]
theorem s180a {x1 i nx e : Nat} (hc : c < 12) (hx : nx < 12) (hcx : nx ≠ c) (hH : H nx + e ≤ 24) (hP : ∀ j, j < e → P (100 * c + j) ≤ 2) : ∀ f j, f + j = e → ev xs L 180 55 [.ref 235, .int (nI x1), .int (nI i), .int (nI c), .int (nI e), .int (nI nx), .int (nI j)] [] (hS (mw S A B C (cpy P (100 * nx + H nx) (100 * c) j) H ls gv) t) = ev xs L 180 101 [.ref 235, .int (nI x1), .int (nI i), .int (nI c), .int (nI e), .int (nI nx), .int (nI e)] [] (hS (mw S A B C (cpy P (100 * nx + H nx) (100 * c) e) H ls gv) t) := by
  intro f
  induction f with
  | zero =>
    intro j hj
    have e0 : j = e := by omega
    rw [r180_55]
    simp (config := { decide := false, maxSteps := 1000000 }) (disch := first | assumption | exact nlg_i _ | exact nlg_r _ | exact nlg_n | omega | decide) only [r180_0, r180_1, r180_2, r180_3, r180_4, r180_5, r180_8, r180_9, r180_10, r180_11, r180_14, r180_16, r180_17, r180_18, r180_19, r180_22, r180_23, r180_26, r180_27, r180_28, r180_29, r180_32, r180_34, r180_35, r180_36, r180_37, r180_38, r180_40, r180_41, r180_42, r180_43, r180_44, r180_47, r180_48, r180_49, r180_50, r180_52, r180_53, r180_57, r180_59, r180_62, r180_63, r180_66, r180_68, r180_70, r180_71, r180_72, r180_75, r180_77, r180_78, r180_79, r180_81, r180_82, r180_83, r180_86, r180_88, r180_89, r180_90, r180_92, r180_93, r180_94, r180_95, r180_98, r180_102, r180_105, r180_107, r180_108, r180_109, r180_111, r180_112, r180_113, r180_114, r180_116, r180_118, r180_119, r180_122, r180_124, r180_125, r180_126, r180_127, r180_130, r180_131, r180_134, r180_136, r180_137, r180_138, r180_140, r180_141, r180_142, r180_145, r180_147, r180_148, r180_149, r180_151, r180_152, r180_154, r180_155, r180_156, r180_157, r180_160, r180_163, r180_164, r180_167, r180_168, r180_169, r180_170, r180_172, r180_173, r180_174, r180_176, r180_177, r180_180, r180_183, r180_184, st_g0_0, st_g0_1, st_g0_2, st_g0_3, st_g0_4, st_p0_4, st_g0_5, st_p0_5, st_g0_6, st_p0_6, st_g0_7, st_p0_7, st_v0, st_g1_0, st_g1_1, st_g1_2, st_g1_3, st_p1_3, st_v1, st_g7_0, st_g7_1, st_p7_1, st_g7_2, st_p7_2, st_v7, st_i2, st_is2, st_i3, st_is3, st_i4, st_is4, st_i5, st_is5, st_i6, st_is6, st_l8, st_ls8, st_y2, st_y3, st_y4, st_y8, st_o100_0, st_o100_1, st_o100_2, st_o100_3, st_o100_4, st_o100_5, st_o100_6, st_o100_7, st_q100_7, st_o100_8, st_q100_8, st_w100, st_o110_0, st_o110_1, st_w110, st_o129_0, st_o129_1, st_q129_1, st_o129_2, st_q129_2, st_w129, st_o205_0, st_o205_1, st_q205_1, st_o205_2, st_o205_3, st_q205_3, st_o205_4, st_q205_4, st_o205_5, st_q205_5, st_o205_6, st_q205_6, st_o205_7, st_q205_7, st_o205_8, st_q205_8, st_o205_9, st_q205_9, st_w205, st_o235_0, st_o235_1, st_o235_2, st_o235_3, st_o235_4, st_o235_5, st_o235_6, st_o235_7, st_q235_7, st_o235_8, st_q235_8, st_o235_9, st_o235_10, st_q235_10, st_o235_11, st_q235_11, st_o235_12, st_q235_12, st_o235_13, st_q235_13, st_o235_14, st_q235_14, st_o235_15, st_q235_15, st_o235_16, st_q235_16, st_o235_17, st_q235_17, st_o235_18, st_q235_18, st_o235_19, st_o235_20, st_o235_21, st_q235_21, st_o235_22, st_q235_22, st_o235_23, st_o235_24, st_q235_24, st_w235, st_a204, st_as204, st_a206, st_as206, st_a216, st_as216, st_a236, st_as236, st_a237, st_as237, st_a238, st_as238, st_a239, st_as239, st_a240, st_as240, st_a241, st_as241, st_a242, st_as242, st_a243, st_as243, st_a244, st_as244, st_a245, st_as245, st_a246, st_as246, st_r130, st_r203, nx_in, nx_clamp, nx_i2n, nx_l2n, nx_add, nx_sub, nx_pred, nx_mul, nx_lt, nx_le, nx_eq, nx_shl, nx_shr, nx_and1, nx_andm, nx_m1, nx_or, nx_dr, nx_rem, nx_kC, nx_ift, nx_iff, e0, ↓nif_lt_t, ↓nif_lt_f, ↓nif_le_t, ↓nif_le_f, ↓nif_eq_t, ↓nif_eq_f, ↓nif_ne_t, ↓nif_ne_f, Nat.one_mul, List.cons_append, List.nil_append, List.append_nil, Option.toList, if_true, if_false, Bool.false_eq_true, and_true, true_and, and_self]
  | succ f ih =>
    intro j hj
    have e1 := ih (j + 1) (by omega)
    have e2 : cpy P (100 * nx + H nx) (100 * c) j (100 * c + j) = P (100 * c + j) := cpy_o (by omega)
    have e3 := hP j (by omega)
    rw [← cpy_s] at e1
    rw [r180_55]
    simp (config := { decide := false, maxSteps := 1000000 }) (disch := first | assumption | exact nlg_i _ | exact nlg_r _ | exact nlg_n | omega | decide) only [r180_0, r180_1, r180_2, r180_3, r180_4, r180_5, r180_8, r180_9, r180_10, r180_11, r180_14, r180_16, r180_17, r180_18, r180_19, r180_22, r180_23, r180_26, r180_27, r180_28, r180_29, r180_32, r180_34, r180_35, r180_36, r180_37, r180_38, r180_40, r180_41, r180_42, r180_43, r180_44, r180_47, r180_48, r180_49, r180_50, r180_52, r180_53, r180_57, r180_59, r180_62, r180_63, r180_66, r180_68, r180_70, r180_71, r180_72, r180_75, r180_77, r180_78, r180_79, r180_81, r180_82, r180_83, r180_86, r180_88, r180_89, r180_90, r180_92, r180_93, r180_94, r180_95, r180_98, r180_102, r180_105, r180_107, r180_108, r180_109, r180_111, r180_112, r180_113, r180_114, r180_116, r180_118, r180_119, r180_122, r180_124, r180_125, r180_126, r180_127, r180_130, r180_131, r180_134, r180_136, r180_137, r180_138, r180_140, r180_141, r180_142, r180_145, r180_147, r180_148, r180_149, r180_151, r180_152, r180_154, r180_155, r180_156, r180_157, r180_160, r180_163, r180_164, r180_167, r180_168, r180_169, r180_170, r180_172, r180_173, r180_174, r180_176, r180_177, r180_180, r180_183, r180_184, st_g0_0, st_g0_1, st_g0_2, st_g0_3, st_g0_4, st_p0_4, st_g0_5, st_p0_5, st_g0_6, st_p0_6, st_g0_7, st_p0_7, st_v0, st_g1_0, st_g1_1, st_g1_2, st_g1_3, st_p1_3, st_v1, st_g7_0, st_g7_1, st_p7_1, st_g7_2, st_p7_2, st_v7, st_i2, st_is2, st_i3, st_is3, st_i4, st_is4, st_i5, st_is5, st_i6, st_is6, st_l8, st_ls8, st_y2, st_y3, st_y4, st_y8, st_o100_0, st_o100_1, st_o100_2, st_o100_3, st_o100_4, st_o100_5, st_o100_6, st_o100_7, st_q100_7, st_o100_8, st_q100_8, st_w100, st_o110_0, st_o110_1, st_w110, st_o129_0, st_o129_1, st_q129_1, st_o129_2, st_q129_2, st_w129, st_o205_0, st_o205_1, st_q205_1, st_o205_2, st_o205_3, st_q205_3, st_o205_4, st_q205_4, st_o205_5, st_q205_5, st_o205_6, st_q205_6, st_o205_7, st_q205_7, st_o205_8, st_q205_8, st_o205_9, st_q205_9, st_w205, st_o235_0, st_o235_1, st_o235_2, st_o235_3, st_o235_4, st_o235_5, st_o235_6, st_o235_7, st_q235_7, st_o235_8, st_q235_8, st_o235_9, st_o235_10, st_q235_10, st_o235_11, st_q235_11, st_o235_12, st_q235_12, st_o235_13, st_q235_13, st_o235_14, st_q235_14, st_o235_15, st_q235_15, st_o235_16, st_q235_16, st_o235_17, st_q235_17, st_o235_18, st_q235_18, st_o235_19, st_o235_20, st_o235_21, st_q235_21, st_o235_22, st_q235_22, st_o235_23, st_o235_24, st_q235_24, st_w235, st_a204, st_as204, st_a206, st_as206, st_a216, st_as216, st_a236, st_as236, st_a237, st_as237, st_a238, st_as238, st_a239, st_as239, st_a240, st_as240, st_a241, st_as241, st_a242, st_as242, st_a243, st_as243, st_a244, st_as244, st_a245, st_as245, st_a246, st_as246, st_r130, st_r203, nx_in, nx_clamp, nx_i2n, nx_l2n, nx_add, nx_sub, nx_pred, nx_mul, nx_lt, nx_le, nx_eq, nx_shl, nx_shr, nx_and1, nx_andm, nx_m1, nx_or, nx_dr, nx_rem, nx_kC, nx_ift, nx_iff, mw_A, mw_P, mw_H, mw_sP, e2, e1, ↓nif_lt_t, ↓nif_lt_f, ↓nif_le_t, ↓nif_le_f, ↓nif_eq_t, ↓nif_eq_f, ↓nif_ne_t, ↓nif_ne_f, Nat.one_mul, List.cons_append, List.nil_append, List.append_nil, Option.toList, if_true, if_false, Bool.false_eq_true, and_true, true_and, and_self]
theorem s180b {x1 i nx e : Nat} (hc : c < 12) (hA : A (9 + c) ≤ 8) (he : 1 ≤ e) (he2 : e ≤ 24) (hP : ∀ j, j < A (9 + c) → P (100 * c + e + j) ≤ 2) : ∀ f j, f + j = A (9 + c) → ev xs L 180 116 [.ref 235, .int (nI x1), .int (nI i), .int (nI c), .int (nI e), .int (nI nx), .int (nI j)] [] (hS (mw S A B C (cpy P (100 * c) (100 * c + e) j) H ls gv) t) = ev xs L 180 163 [.ref 235, .int (nI x1), .int (nI i), .int (nI c), .int (nI e), .int (nI nx), .int (nI (A (9 + c)))] [] (hS (mw S A B C (cpy P (100 * c) (100 * c + e) (A (9 + c))) H ls gv) t) := by
  intro f
  induction f with
  | zero =>
    intro j hj
    have e0 : j = A (9 + c) := by omega
    rw [r180_116]
    simp (config := { decide := false, maxSteps := 1000000 }) (disch := first | assumption | exact nlg_i _ | exact nlg_r _ | exact nlg_n | omega | decide) only [r180_0, r180_1, r180_2, r180_3, r180_4, r180_5, r180_8, r180_9, r180_10, r180_11, r180_14, r180_16, r180_17, r180_18, r180_19, r180_22, r180_23, r180_26, r180_27, r180_28, r180_29, r180_32, r180_34, r180_35, r180_36, r180_37, r180_38, r180_40, r180_41, r180_42, r180_43, r180_44, r180_47, r180_48, r180_49, r180_50, r180_52, r180_53, r180_55, r180_57, r180_59, r180_62, r180_63, r180_66, r180_68, r180_70, r180_71, r180_72, r180_75, r180_77, r180_78, r180_79, r180_81, r180_82, r180_83, r180_86, r180_88, r180_89, r180_90, r180_92, r180_93, r180_94, r180_95, r180_98, r180_101, r180_102, r180_105, r180_107, r180_108, r180_109, r180_111, r180_112, r180_113, r180_114, r180_118, r180_119, r180_122, r180_124, r180_125, r180_126, r180_127, r180_130, r180_131, r180_134, r180_136, r180_137, r180_138, r180_140, r180_141, r180_142, r180_145, r180_147, r180_148, r180_149, r180_151, r180_152, r180_154, r180_155, r180_156, r180_157, r180_160, r180_164, r180_167, r180_168, r180_169, r180_170, r180_172, r180_173, r180_174, r180_176, r180_177, r180_180, r180_183, r180_184, st_g0_0, st_g0_1, st_g0_2, st_g0_3, st_g0_4, st_p0_4, st_g0_5, st_p0_5, st_g0_6, st_p0_6, st_g0_7, st_p0_7, st_v0, st_g1_0, st_g1_1, st_g1_2, st_g1_3, st_p1_3, st_v1, st_g7_0, st_g7_1, st_p7_1, st_g7_2, st_p7_2, st_v7, st_i2, st_is2, st_i3, st_is3, st_i4, st_is4, st_i5, st_is5, st_i6, st_is6, st_l8, st_ls8, st_y2, st_y3, st_y4, st_y8, st_o100_0, st_o100_1, st_o100_2, st_o100_3, st_o100_4, st_o100_5, st_o100_6, st_o100_7, st_q100_7, st_o100_8, st_q100_8, st_w100, st_o110_0, st_o110_1, st_w110, st_o129_0, st_o129_1, st_q129_1, st_o129_2, st_q129_2, st_w129, st_o205_0, st_o205_1, st_q205_1, st_o205_2, st_o205_3, st_q205_3, st_o205_4, st_q205_4, st_o205_5, st_q205_5, st_o205_6, st_q205_6, st_o205_7, st_q205_7, st_o205_8, st_q205_8, st_o205_9, st_q205_9, st_w205, st_o235_0, st_o235_1, st_o235_2, st_o235_3, st_o235_4, st_o235_5, st_o235_6, st_o235_7, st_q235_7, st_o235_8, st_q235_8, st_o235_9, st_o235_10, st_q235_10, st_o235_11, st_q235_11, st_o235_12, st_q235_12, st_o235_13, st_q235_13, st_o235_14, st_q235_14, st_o235_15, st_q235_15, st_o235_16, st_q235_16, st_o235_17, st_q235_17, st_o235_18, st_q235_18, st_o235_19, st_o235_20, st_o235_21, st_q235_21, st_o235_22, st_q235_22, st_o235_23, st_o235_24, st_q235_24, st_w235, st_a204, st_as204, st_a206, st_as206, st_a216, st_as216, st_a236, st_as236, st_a237, st_as237, st_a238, st_as238, st_a239, st_as239, st_a240, st_as240, st_a241, st_as241, st_a242, st_as242, st_a243, st_as243, st_a244, st_as244, st_a245, st_as245, st_a246, st_as246, st_r130, st_r203, nx_in, nx_clamp, nx_i2n, nx_l2n, nx_add, nx_sub, nx_pred, nx_mul, nx_lt, nx_le, nx_eq, nx_shl, nx_shr, nx_and1, nx_andm, nx_m1, nx_or, nx_dr, nx_rem, nx_kC, nx_ift, nx_iff, mw_A, e0, ↓nif_lt_t, ↓nif_lt_f, ↓nif_le_t, ↓nif_le_f, ↓nif_eq_t, ↓nif_eq_f, ↓nif_ne_t, ↓nif_ne_f, Nat.one_mul, List.cons_append, List.nil_append, List.append_nil, Option.toList, if_true, if_false, Bool.false_eq_true, and_true, true_and, and_self]
  | succ f ih =>
    intro j hj
    have e1 := ih (j + 1) (by omega)
    have e2 : cpy P (100 * c) (100 * c + e) j (100 * c + e + j) = P (100 * c + e + j) := cpy_o (by omega)
    have e3 := hP j (by omega)
    rw [← cpy_s] at e1
    rw [r180_116]
    simp (config := { decide := false, maxSteps := 1000000 }) (disch := first | assumption | exact nlg_i _ | exact nlg_r _ | exact nlg_n | omega | decide) only [r180_0, r180_1, r180_2, r180_3, r180_4, r180_5, r180_8, r180_9, r180_10, r180_11, r180_14, r180_16, r180_17, r180_18, r180_19, r180_22, r180_23, r180_26, r180_27, r180_28, r180_29, r180_32, r180_34, r180_35, r180_36, r180_37, r180_38, r180_40, r180_41, r180_42, r180_43, r180_44, r180_47, r180_48, r180_49, r180_50, r180_52, r180_53, r180_55, r180_57, r180_59, r180_62, r180_63, r180_66, r180_68, r180_70, r180_71, r180_72, r180_75, r180_77, r180_78, r180_79, r180_81, r180_82, r180_83, r180_86, r180_88, r180_89, r180_90, r180_92, r180_93, r180_94, r180_95, r180_98, r180_101, r180_102, r180_105, r180_107, r180_108, r180_109, r180_111, r180_112, r180_113, r180_114, r180_118, r180_119, r180_122, r180_124, r180_125, r180_126, r180_127, r180_130, r180_131, r180_134, r180_136, r180_137, r180_138, r180_140, r180_141, r180_142, r180_145, r180_147, r180_148, r180_149, r180_151, r180_152, r180_154, r180_155, r180_156, r180_157, r180_160, r180_164, r180_167, r180_168, r180_169, r180_170, r180_172, r180_173, r180_174, r180_176, r180_177, r180_180, r180_183, r180_184, st_g0_0, st_g0_1, st_g0_2, st_g0_3, st_g0_4, st_p0_4, st_g0_5, st_p0_5, st_g0_6, st_p0_6, st_g0_7, st_p0_7, st_v0, st_g1_0, st_g1_1, st_g1_2, st_g1_3, st_p1_3, st_v1, st_g7_0, st_g7_1, st_p7_1, st_g7_2, st_p7_2, st_v7, st_i2, st_is2, st_i3, st_is3, st_i4, st_is4, st_i5, st_is5, st_i6, st_is6, st_l8, st_ls8, st_y2, st_y3, st_y4, st_y8, st_o100_0, st_o100_1, st_o100_2, st_o100_3, st_o100_4, st_o100_5, st_o100_6, st_o100_7, st_q100_7, st_o100_8, st_q100_8, st_w100, st_o110_0, st_o110_1, st_w110, st_o129_0, st_o129_1, st_q129_1, st_o129_2, st_q129_2, st_w129, st_o205_0, st_o205_1, st_q205_1, st_o205_2, st_o205_3, st_q205_3, st_o205_4, st_q205_4, st_o205_5, st_q205_5, st_o205_6, st_q205_6, st_o205_7, st_q205_7, st_o205_8, st_q205_8, st_o205_9, st_q205_9, st_w205, st_o235_0, st_o235_1, st_o235_2, st_o235_3, st_o235_4, st_o235_5, st_o235_6, st_o235_7, st_q235_7, st_o235_8, st_q235_8, st_o235_9, st_o235_10, st_q235_10, st_o235_11, st_q235_11, st_o235_12, st_q235_12, st_o235_13, st_q235_13, st_o235_14, st_q235_14, st_o235_15, st_q235_15, st_o235_16, st_q235_16, st_o235_17, st_q235_17, st_o235_18, st_q235_18, st_o235_19, st_o235_20, st_o235_21, st_q235_21, st_o235_22, st_q235_22, st_o235_23, st_o235_24, st_q235_24, st_w235, st_a204, st_as204, st_a206, st_as206, st_a216, st_as216, st_a236, st_as236, st_a237, st_as237, st_a238, st_as238, st_a239, st_as239, st_a240, st_as240, st_a241, st_as241, st_a242, st_as242, st_a243, st_as243, st_a244, st_as244, st_a245, st_as245, st_a246, st_as246, st_r130, st_r203, nx_in, nx_clamp, nx_i2n, nx_l2n, nx_add, nx_sub, nx_pred, nx_mul, nx_lt, nx_le, nx_eq, nx_shl, nx_shr, nx_and1, nx_andm, nx_m1, nx_or, nx_dr, nx_rem, nx_kC, nx_ift, nx_iff, mw_A, mw_P, mw_H, mw_sP, e2, e1, ↓nif_lt_t, ↓nif_lt_f, ↓nif_le_t, ↓nif_le_f, ↓nif_eq_t, ↓nif_eq_f, ↓nif_ne_t, ↓nif_ne_f, Nat.one_mul, List.cons_append, List.nil_append, List.append_nil, Option.toList, if_true, if_false, Bool.false_eq_true, and_true, true_and, and_self]
theorem prl_stp {b : xB} (hn : 1 < n) (hc : c < n) (hw : bwf n b) (h24 : ∀ d, d < n → b.1 d ≤ 24) (ho : cap c < b.1 c) (h2 : b.1 (nxt n c) + (b.1 c - cap c) ≤ 24) (hP : prl n b P H) : prl n (stp n cap b c) (cpy (cpy P (100 * nxt n c + b.1 (nxt n c)) (100 * c) (b.1 c - cap c)) (100 * c) (100 * c + (b.1 c - cap c)) (cap c)) (upN (upN H (nxt n c) (b.1 (nxt n c) + (b.1 c - cap c))) c (b.1 c - (b.1 c - cap c))) := by
  have hx := nxt_ne (c := c) hn
  have hl := nxt_lt (n := n) (c := c) (by omega)
  intro d hd
  have q1 := h24 d hd
  have q2 := h24 c hc
  have q3 := h24 _ hl
  by_cases hdc : d = c
  · subst hdc
    have s1 : (stp n cap b d).1 d = cap d := upN_e _ _ _
    have s2 : (stp n cap b d).2 d = b.2 d / 2 ^ (b.1 d - cap d) := upN_e _ _ _
    rw [s1, s2, upN_e]
    refine ⟨by omega, fun k hk => ?_⟩
    rw [cpy_i hk, cpy_o (by omega), Nat.add_assoc, (hP d hd).2 _ (by omega), Nat.pow_add, ← Nat.div_div_eq_div_mul]
  · by_cases hdx : d = nxt n c
    · have s1 : (stp n cap b c).1 d = b.1 d + (b.1 c - cap c) := by
        show upN (upN b.1 (nxt n c) _) c _ d = _
        rw [upN_n hdc, hdx, upN_e]
      have s2 : (stp n cap b c).2 d = b.2 d + b.2 c % 2 ^ (b.1 c - cap c) * 2 ^ b.1 d := by
        show upN (upN b.2 (nxt n c) _) c _ d = _
        rw [upN_n hdc, hdx, upN_e]
      rw [s1, s2, upN_n hdc, ← hdx, upN_e]
      refine ⟨rfl, fun k hk => ?_⟩
      rw [← hdx] at h2
      rw [cpy_o (by omega)]
      by_cases hk1 : k < b.1 d
      · rw [cpy_o (by omega), (hP d hd).2 k hk1, zb1 hk1]
      · have e1 : 100 * d + k = 100 * d + b.1 d + (k - b.1 d) := by omega
        have e2 := zb2 (q := b.2 c % 2 ^ (b.1 c - cap c)) (j := k - b.1 d) (hw d hd)
        rw [show b.1 d + (k - b.1 d) = k by omega] at e2
        rw [e1, cpy_i (by omega), (hP c hc).2 _ (by omega), e2, zb3 (by omega)]
    · have s1 : (stp n cap b c).1 d = b.1 d := by
        show upN (upN b.1 (nxt n c) _) c _ d = _
        rw [upN_n hdc, upN_n hdx]
      have s2 : (stp n cap b c).2 d = b.2 d := by
        show upN (upN b.2 (nxt n c) _) c _ d = _
        rw [upN_n hdc, upN_n hdx]
      rw [s1, s2, upN_n hdc, upN_n hdx]
      refine ⟨(hP d hd).1, fun k hk => ?_⟩
      rw [cpy_o (by omega), cpy_o (by omega)]
      exact (hP d hd).2 k hk
theorem s180h {x1 : Nat} (hn : 1 < n ∧ n ≤ 12) (hA0 : A 0 = n) (hA : ∀ d, d < n → A (9 + d) = cap d ∧ cap d ≤ 8) : ∀ f i c (b : xB) P H x4 x5 x6, i + f ≤ 40 → c < n → bwf n b → (∀ d, d < n → b.1 d ≤ 24) → stO n cap f b c → stE n cap f b c → prl n b P H → xi_nlg x4 = true → xi_nlg x5 = true → ∃ P' H', prl n (stF n cap f b c).1 P' H' ∧ ev xs L 180 4 [.ref 235, .int (nI x1), .int (nI i), .int (nI c), x4, x5, x6] [] (hS (mw S A B C P H ls gv) t) = some (.inl (some (.int (nI ((stF n cap f b c).2 + i)))), hS (mw S A B C P' H' ls gv) t) := by
  intro f
  induction f with
  | zero => intro i c b P H x4 x5 x6 _ _ _ _ _ hE; exact hE.elim
  | succ f ih =>
    intro i c b P H x4 x5 x6 hi hc hw h24 hO hE hP hx4 hx5
    have hx := nxt_ne (n := n) (c := c) hn.1
    have hl := nxt_lt (n := n) (c := c) (by omega)
    have q1 := (hA c hc).1
    have q2 := (hA c hc).2
    have q3 := (hP c hc).1
    have q4 := (hP _ hl).1
    have b1 := h24 c hc
    have b2 := h24 _ hl
    unfold stE at hE
    unfold stO at hO
    unfold stF
    by_cases ho : cap c < b.1 c
    · have hO2 := hO.2 ho
      have hn0 : ¬ nI n = 0 := nI_ne0 (by omega) (by omega)
      have en : (c + 1) % n = nxt n c := by
        unfold nxt
        by_cases h : c + 1 < n
        · rw [if_pos h, Nat.mod_eq_of_lt h]
        · rw [if_neg h, show c + 1 = n by omega, Nat.mod_self]
      have e1 := s180a (xs := xs) (L := L) (S := S) (t := t) (A := A) (B := B) (C := C) (P := P) (H := H) (ls := ls) (gv := gv) (c := c) (x1 := x1) (i := i) (nx := nxt n c) (e := b.1 c - cap c) (by omega) (by omega) hx (by rw [q4]; exact hO2.1) (fun j hj => by
        rw [(hP c hc).2 j (by omega)]
        omega) (b.1 c - cap c) 0 rfl
      rw [cpy_0, q4] at e1
      have e2 := s180b (xs := xs) (L := L) (S := S) (t := t) (A := A) (B := B) (C := C) (P := cpy P (100 * nxt n c + b.1 (nxt n c)) (100 * c) (b.1 c - cap c)) (H := upN H (nxt n c) (b.1 (nxt n c) + (b.1 c - cap c))) (ls := ls) (gv := gv) (c := c) (x1 := x1) (i := i) (nx := nxt n c) (e := b.1 c - cap c) (by omega) (by omega) (by omega) (by omega) (fun j hj => by
        rw [cpy_o (by omega), Nat.add_assoc, (hP c hc).2 _ (by omega)]
        omega) (A (9 + c)) 0 rfl
      rw [cpy_0, q1] at e2
      have hps := prl_stp hn.1 hc hw h24 ho hO2.1 hP
      obtain ⟨P', H', a1, a2⟩ := ih (i + 1) (nxt n c) (stp n cap b c) _ _ (.int (nI (b.1 c - cap c))) (.int (nI (nxt n c))) (.int (nI (cap c))) (by omega) hl (stp_wf hn.1 hw hc ho) (fun d hd => by
        show upN (upN b.1 (nxt n c) _) c (cap c) d ≤ 24
        by_cases hdc : d = c
        · rw [hdc, upN_e]
          omega
        · rw [upN_n hdc]
          by_cases hdx : d = nxt n c
          · rw [hdx, upN_e]
            exact hO2.1
          · rw [upN_n hdx]
            exact h24 d hd) hO2.2 (hE ho) hps rfl rfl
      refine ⟨P', H', by rw [if_pos ho]; exact a1, ?_⟩
      rw [if_pos ho, r180_4]
      simp (config := { decide := false, maxSteps := 1000000 }) (disch := first | assumption | exact nlg_i _ | exact nlg_r _ | exact nlg_n | omega | decide) only [r180_0, r180_1, r180_2, r180_3, r180_5, r180_8, r180_9, r180_10, r180_11, r180_14, r180_16, r180_17, r180_18, r180_19, r180_22, r180_23, r180_26, r180_27, r180_28, r180_29, r180_32, r180_34, r180_35, r180_36, r180_37, r180_38, r180_40, r180_41, r180_42, r180_43, r180_44, r180_47, r180_48, r180_49, r180_50, r180_52, r180_53, r180_57, r180_59, r180_62, r180_63, r180_66, r180_68, r180_70, r180_71, r180_72, r180_75, r180_77, r180_78, r180_79, r180_81, r180_82, r180_83, r180_86, r180_88, r180_89, r180_90, r180_92, r180_93, r180_94, r180_95, r180_98, r180_101, r180_102, r180_105, r180_107, r180_108, r180_109, r180_111, r180_112, r180_113, r180_114, r180_118, r180_119, r180_122, r180_124, r180_125, r180_126, r180_127, r180_130, r180_131, r180_134, r180_136, r180_137, r180_138, r180_140, r180_141, r180_142, r180_145, r180_147, r180_148, r180_149, r180_151, r180_152, r180_154, r180_155, r180_156, r180_157, r180_160, r180_163, r180_164, r180_167, r180_168, r180_169, r180_170, r180_172, r180_173, r180_174, r180_176, r180_177, r180_180, r180_183, r180_184, st_g0_0, st_g0_1, st_g0_2, st_g0_3, st_g0_4, st_p0_4, st_g0_5, st_p0_5, st_g0_6, st_p0_6, st_g0_7, st_p0_7, st_v0, st_g1_0, st_g1_1, st_g1_2, st_g1_3, st_p1_3, st_v1, st_g7_0, st_g7_1, st_p7_1, st_g7_2, st_p7_2, st_v7, st_i2, st_is2, st_i3, st_is3, st_i4, st_is4, st_i5, st_is5, st_i6, st_is6, st_l8, st_ls8, st_y2, st_y3, st_y4, st_y8, st_o100_0, st_o100_1, st_o100_2, st_o100_3, st_o100_4, st_o100_5, st_o100_6, st_o100_7, st_q100_7, st_o100_8, st_q100_8, st_w100, st_o110_0, st_o110_1, st_w110, st_o129_0, st_o129_1, st_q129_1, st_o129_2, st_q129_2, st_w129, st_o205_0, st_o205_1, st_q205_1, st_o205_2, st_o205_3, st_q205_3, st_o205_4, st_q205_4, st_o205_5, st_q205_5, st_o205_6, st_q205_6, st_o205_7, st_q205_7, st_o205_8, st_q205_8, st_o205_9, st_q205_9, st_w205, st_o235_0, st_o235_1, st_o235_2, st_o235_3, st_o235_4, st_o235_5, st_o235_6, st_o235_7, st_q235_7, st_o235_8, st_q235_8, st_o235_9, st_o235_10, st_q235_10, st_o235_11, st_q235_11, st_o235_12, st_q235_12, st_o235_13, st_q235_13, st_o235_14, st_q235_14, st_o235_15, st_q235_15, st_o235_16, st_q235_16, st_o235_17, st_q235_17, st_o235_18, st_q235_18, st_o235_19, st_o235_20, st_o235_21, st_q235_21, st_o235_22, st_q235_22, st_o235_23, st_o235_24, st_q235_24, st_w235, st_a204, st_as204, st_a206, st_as206, st_a216, st_as216, st_a236, st_as236, st_a237, st_as237, st_a238, st_as238, st_a239, st_as239, st_a240, st_as240, st_a241, st_as241, st_a242, st_as242, st_a243, st_as243, st_a244, st_as244, st_a245, st_as245, st_a246, st_as246, st_r130, st_r203, nx_in, nx_clamp, nx_i2n, nx_l2n, nx_add, nx_sub, nx_pred, nx_mul, nx_lt, nx_le, nx_eq, nx_shl, nx_shr, nx_and1, nx_andm, nx_m1, nx_or, nx_dr, nx_rem, nx_kC, nx_ift, nx_iff, mw_A, mw_P, mw_H, mw_sP, mw_sH, hA0, q1, q3, q4, en, upN_n, e1, e2, a2, Nat.add_assoc, Nat.add_comm 1 i, ↓nif_lt_t, ↓nif_lt_f, ↓nif_le_t, ↓nif_le_f, ↓nif_eq_t, ↓nif_eq_f, ↓nif_ne_t, ↓nif_ne_f, Nat.one_mul, List.cons_append, List.nil_append, List.append_nil, Option.toList, if_true, if_false, Bool.false_eq_true, and_true, true_and, and_self]
    · refine ⟨P, H, by rw [if_neg ho]; exact hP, ?_⟩
      rw [if_neg ho, r180_4]
      simp (config := { decide := false, maxSteps := 1000000 }) (disch := first | assumption | exact nlg_i _ | exact nlg_r _ | exact nlg_n | omega | decide) only [r180_0, r180_1, r180_2, r180_3, r180_5, r180_8, r180_9, r180_10, r180_11, r180_14, r180_16, r180_17, r180_18, r180_19, r180_23, r180_26, r180_27, r180_28, r180_29, r180_32, r180_34, r180_35, r180_36, r180_37, r180_38, r180_40, r180_41, r180_42, r180_43, r180_44, r180_47, r180_48, r180_49, r180_50, r180_52, r180_53, r180_57, r180_59, r180_62, r180_63, r180_66, r180_68, r180_70, r180_71, r180_72, r180_75, r180_77, r180_78, r180_79, r180_81, r180_82, r180_83, r180_86, r180_88, r180_89, r180_90, r180_92, r180_93, r180_94, r180_95, r180_98, r180_101, r180_102, r180_105, r180_107, r180_108, r180_109, r180_111, r180_112, r180_113, r180_114, r180_118, r180_119, r180_122, r180_124, r180_125, r180_126, r180_127, r180_130, r180_131, r180_134, r180_136, r180_137, r180_138, r180_140, r180_141, r180_142, r180_145, r180_147, r180_148, r180_149, r180_151, r180_152, r180_154, r180_155, r180_156, r180_157, r180_160, r180_163, r180_164, r180_167, r180_168, r180_169, r180_170, r180_172, r180_173, r180_174, r180_176, r180_177, r180_180, r180_183, r180_184, st_g0_0, st_g0_1, st_g0_2, st_g0_3, st_g0_4, st_p0_4, st_g0_5, st_p0_5, st_g0_6, st_p0_6, st_g0_7, st_p0_7, st_v0, st_g1_0, st_g1_1, st_g1_2, st_g1_3, st_p1_3, st_v1, st_g7_0, st_g7_1, st_p7_1, st_g7_2, st_p7_2, st_v7, st_i2, st_is2, st_i3, st_is3, st_i4, st_is4, st_i5, st_is5, st_i6, st_is6, st_l8, st_ls8, st_y2, st_y3, st_y4, st_y8, st_o100_0, st_o100_1, st_o100_2, st_o100_3, st_o100_4, st_o100_5, st_o100_6, st_o100_7, st_q100_7, st_o100_8, st_q100_8, st_w100, st_o110_0, st_o110_1, st_w110, st_o129_0, st_o129_1, st_q129_1, st_o129_2, st_q129_2, st_w129, st_o205_0, st_o205_1, st_q205_1, st_o205_2, st_o205_3, st_q205_3, st_o205_4, st_q205_4, st_o205_5, st_q205_5, st_o205_6, st_q205_6, st_o205_7, st_q205_7, st_o205_8, st_q205_8, st_o205_9, st_q205_9, st_w205, st_o235_0, st_o235_1, st_o235_2, st_o235_3, st_o235_4, st_o235_5, st_o235_6, st_o235_7, st_q235_7, st_o235_8, st_q235_8, st_o235_9, st_o235_10, st_q235_10, st_o235_11, st_q235_11, st_o235_12, st_q235_12, st_o235_13, st_q235_13, st_o235_14, st_q235_14, st_o235_15, st_q235_15, st_o235_16, st_q235_16, st_o235_17, st_q235_17, st_o235_18, st_q235_18, st_o235_19, st_o235_20, st_o235_21, st_q235_21, st_o235_22, st_q235_22, st_o235_23, st_o235_24, st_q235_24, st_w235, st_a204, st_as204, st_a206, st_as206, st_a216, st_as216, st_a236, st_as236, st_a237, st_as237, st_a238, st_as238, st_a239, st_as239, st_a240, st_as240, st_a241, st_as241, st_a242, st_as242, st_a243, st_as243, st_a244, st_as244, st_a245, st_as245, st_a246, st_as246, st_r130, st_r203, nx_in, nx_clamp, nx_i2n, nx_l2n, nx_add, nx_sub, nx_pred, nx_mul, nx_lt, nx_le, nx_eq, nx_shl, nx_shr, nx_and1, nx_andm, nx_m1, nx_or, nx_dr, nx_rem, nx_kC, nx_ift, nx_iff, mw_A, mw_H, q1, q3, Nat.zero_add, ↓nif_lt_t, ↓nif_lt_f, ↓nif_le_t, ↓nif_le_f, ↓nif_eq_t, ↓nif_eq_f, ↓nif_ne_t, ↓nif_ne_f, Nat.one_mul, List.cons_append, List.nil_append, List.append_nil, Option.toList, if_true, if_false, Bool.false_eq_true, and_true, true_and, and_self]
theorem s180 {b : xB} (hn : 1 < n ∧ n ≤ 12) (hA0 : A 0 = n) (hA : ∀ d, d < n → A (9 + d) = cap d ∧ cap d ≤ 8) (hc : c < n) (hw : bwf n b) (h24 : ∀ d, d < n → b.1 d ≤ 24) (hO : stO n cap n b c) (hE : stE n cap n b c) (hP : prl n b P H) : ∃ P' H', prl n (stF n cap n b c).1 P' H' ∧ ev xs L 180 0 [.ref 235, .int (nI c), .null, .null, .null, .null, .null] [] (hS (mw S A B C P H ls gv) t) = some (.inl (some (.int (nI (stF n cap n b c).2))), hS (mw S A B C P' H' ls gv) t) := by
  obtain ⟨P', H', a1, a2⟩ := s180h (xs := xs) (L := L) (S := S) (t := t) (A := A) (B := B) (C := C) (ls := ls) (gv := gv) (x1 := c) hn hA0 hA n 0 c b P H .null .null .null (by omega) hc hw h24 hO hE hP rfl rfl
  rw [Nat.add_zero] at a2
  refine ⟨P', H', a1, ?_⟩
  simp (config := { decide := false, maxSteps := 1000000 }) (disch := first | assumption | exact nlg_i _ | exact nlg_r _ | exact nlg_n | omega | decide) only [r180_0, r180_1, r180_2, r180_3, r180_5, r180_8, r180_9, r180_10, r180_11, r180_14, r180_16, r180_17, r180_18, r180_19, r180_22, r180_23, r180_26, r180_27, r180_28, r180_29, r180_32, r180_34, r180_35, r180_36, r180_37, r180_38, r180_40, r180_41, r180_42, r180_43, r180_44, r180_47, r180_48, r180_49, r180_50, r180_52, r180_53, r180_55, r180_57, r180_59, r180_62, r180_63, r180_66, r180_68, r180_70, r180_71, r180_72, r180_75, r180_77, r180_78, r180_79, r180_81, r180_82, r180_83, r180_86, r180_88, r180_89, r180_90, r180_92, r180_93, r180_94, r180_95, r180_98, r180_101, r180_102, r180_105, r180_107, r180_108, r180_109, r180_111, r180_112, r180_113, r180_114, r180_116, r180_118, r180_119, r180_122, r180_124, r180_125, r180_126, r180_127, r180_130, r180_131, r180_134, r180_136, r180_137, r180_138, r180_140, r180_141, r180_142, r180_145, r180_147, r180_148, r180_149, r180_151, r180_152, r180_154, r180_155, r180_156, r180_157, r180_160, r180_163, r180_164, r180_167, r180_168, r180_169, r180_170, r180_172, r180_173, r180_174, r180_176, r180_177, r180_180, r180_183, r180_184, st_g0_0, st_g0_1, st_g0_2, st_g0_3, st_g0_4, st_p0_4, st_g0_5, st_p0_5, st_g0_6, st_p0_6, st_g0_7, st_p0_7, st_v0, st_g1_0, st_g1_1, st_g1_2, st_g1_3, st_p1_3, st_v1, st_g7_0, st_g7_1, st_p7_1, st_g7_2, st_p7_2, st_v7, st_i2, st_is2, st_i3, st_is3, st_i4, st_is4, st_i5, st_is5, st_i6, st_is6, st_l8, st_ls8, st_y2, st_y3, st_y4, st_y8, st_o100_0, st_o100_1, st_o100_2, st_o100_3, st_o100_4, st_o100_5, st_o100_6, st_o100_7, st_q100_7, st_o100_8, st_q100_8, st_w100, st_o110_0, st_o110_1, st_w110, st_o129_0, st_o129_1, st_q129_1, st_o129_2, st_q129_2, st_w129, st_o205_0, st_o205_1, st_q205_1, st_o205_2, st_o205_3, st_q205_3, st_o205_4, st_q205_4, st_o205_5, st_q205_5, st_o205_6, st_q205_6, st_o205_7, st_q205_7, st_o205_8, st_q205_8, st_o205_9, st_q205_9, st_w205, st_o235_0, st_o235_1, st_o235_2, st_o235_3, st_o235_4, st_o235_5, st_o235_6, st_o235_7, st_q235_7, st_o235_8, st_q235_8, st_o235_9, st_o235_10, st_q235_10, st_o235_11, st_q235_11, st_o235_12, st_q235_12, st_o235_13, st_q235_13, st_o235_14, st_q235_14, st_o235_15, st_q235_15, st_o235_16, st_q235_16, st_o235_17, st_q235_17, st_o235_18, st_q235_18, st_o235_19, st_o235_20, st_o235_21, st_q235_21, st_o235_22, st_q235_22, st_o235_23, st_o235_24, st_q235_24, st_w235, st_a204, st_as204, st_a206, st_as206, st_a216, st_as216, st_a236, st_as236, st_a237, st_as237, st_a238, st_as238, st_a239, st_as239, st_a240, st_as240, st_a241, st_as241, st_a242, st_as242, st_a243, st_as243, st_a244, st_as244, st_a245, st_as245, st_a246, st_as246, st_r130, st_r203, nx_in, nx_clamp, nx_i2n, nx_l2n, nx_add, nx_sub, nx_pred, nx_mul, nx_lt, nx_le, nx_eq, nx_shl, nx_shr, nx_and1, nx_andm, nx_m1, nx_or, nx_dr, nx_rem, nx_kC, nx_ift, nx_iff, a2, ↓nif_lt_t, ↓nif_lt_f, ↓nif_le_t, ↓nif_le_f, ↓nif_eq_t, ↓nif_eq_f, ↓nif_ne_t, ↓nif_ne_f, Nat.one_mul, List.cons_append, List.nil_append, List.append_nil, Option.toList, if_true, if_false, Bool.false_eq_true, and_true, true_and, and_self]
end XMS
