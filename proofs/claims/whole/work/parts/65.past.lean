section XPA
variable {xs : Nat → Int32} {L : Nat} {S : xS} {t : Nat × Nat × Nat} {A B C P H : Nat → Nat} {ls gv : Int32} {n c m code v j : Nat} {r q : xG} {k : Nat → Nat}
/-- where the position with an age lies in the class's row -/
def slo (r : xG) (j : Nat) : Nat := if r 7 1 < 20 then j else (r 7 2 + j) % 20
/-- the model's positions are those of the keys -/
def prel (A : Nat → Nat) (r : xG) (k : Nat → Nat) : Prop := A 33 = r 7 1 ∧ (r 7 1 < 20 → r 7 2 = r 7 1) ∧ ∀ j, j < r 7 1 → ∃ q, gok q ∧ q 1 3 = r 1 3 ∧ (∀ i, i < 27 → A (34 + 27 * j + i) = v27 q i) ∧ k (slo r j * 3) = ky q 0 ∧ k (slo r j * 3 + 1) = ky q 1 ∧ k (slo r j * 3 + 2) = ky q 2
theorem slo_lt (h1 : r 7 1 ≤ 20) (h2 : r 7 2 < 20) (hj : j < r 7 1) : slo r j < r 7 1 := by
  unfold slo
  split
  · exact hj
  · have : (r 7 2 + j) % 20 < 20 := Nat.mod_lt _ (by decide)
    omega
theorem v27_lt (hg : gok q) {i : Nat} (hi : i < 27) : v27 q i < 1000 := by
  have hn := hg.1
  have h5 := hg.2.2.2.2.1
  have ht := hg.2.2.2.1
  unfold v27
  split
  · omega
  · split
    · rcases (show i = 1 ∨ i = 2 by omega) with z | z
      · rw [z]; omega
      · rw [z]; omega
    · split
      · split
        · have := (hg.2.1 (i - 3) (by omega)).1
          omega
        · omega
      · split
        · have q := hg.2.1 (i - 15) (by omega)
          have := z512 q.2.1 q.2.2
          omega
        · omega
theorem mrel_27 (hg : gok r) (hm : mrel A r) {i : Nat} (hi : i < 27) : A (6 + i) = v27 r i := by
  have hn := hg.1
  obtain ⟨h, hc, ho⟩ := hm
  unfold v27
  by_cases i0 : i = 0
  · rw [if_pos i0, i0]
    exact h.2.2.2.2.2.2.1
  · rw [if_neg i0]
    by_cases i3 : i < 3
    · rw [if_pos i3]
      rcases (show i = 1 ∨ i = 2 by omega) with z | z
      · rw [z]; exact h.2.2.2.2.2.2.2.1
      · rw [z]; exact h.2.2.2.2.2.2.2.2
    · rw [if_neg i3]
      by_cases i15 : i < 15
      · rw [if_pos i15]
        by_cases hcc : i - 3 < r 1 3
        · rw [if_pos hcc, ← (hc _ hcc).1]
          congr 1
          omega
        · rw [if_neg hcc, ← (ho (i - 3) (by omega) (by omega)).1]
          congr 1
          omega
      · rw [if_neg i15]
        by_cases hcc : i - 15 < r 1 3
        · rw [if_pos hcc, ← (hc _ hcc).2]
          congr 1
          omega
        · rw [if_neg hcc, ← (ho (i - 15) (by omega) (by omega)).2]
          congr 1
          omega
/-- whether the rest of a position is the present one -/
def alle (A : Nat → Nat) (n : Nat) : Nat → Nat → Nat
  | 0, _ => 1
  | f + 1, k => if A (34 + 27 * n + k) = A (6 + k) then alle A n f (k + 1) else 0
theorem alle_1 : ∀ f k, (alle A n f k = 1 ↔ ∀ i, k ≤ i → i < k + f → A (34 + 27 * n + i) = A (6 + i)) := by
  intro f
  induction f with
  | zero =>
    intro k
    exact ⟨fun _ i h1 h2 => by omega, fun _ => rfl⟩
  | succ f ih =>
    intro k
    unfold alle
    by_cases h : A (34 + 27 * n + k) = A (6 + k)
    · rw [if_pos h, ih]
      constructor
      · intro h1 i i1 i2
        by_cases hi : i = k
        · rw [hi]; exact h
        · exact h1 i (by omega) (by omega)
      · intro h1 i i1 i2
        exact h1 i (by omega) (by omega)
    · rw [if_neg h]
      constructor
      · intro z; omega
      · intro z; exact absurd (z k (Nat.le_refl _) (by omega)) h
theorem alle_2 : ∀ f k, alle A n f k = 0 ∨ alle A n f k = 1 := by
  intro f
  induction f with
  | zero => intro k; exact Or.inr rfl
  | succ f ih =>
    intro k
    unfold alle
    split
    · exact ih _
    · exact Or.inl rfl
theorem s183i (hn : n < 20) (hA : ∀ i, i < 27 → A (34 + 27 * n + i) < 2 ^ 31 ∧ A (6 + i) < 2 ^ 31) : ∀ f k, f + k = 27 → ∃ kk, ev xs L 183 17 [.ref 235, .int (nI n), .int (nI 1), .int (nI k)] [] (hS (mw S A B C P H ls gv) t) = ev xs L 183 65 [.ref 235, .int (nI n), .int (nI (alle A n f k)), .int (nI kk)] [] (hS (mw S A B C P H ls gv) t) := by
  intro f
  induction f with
  | zero =>
    intro k hk
    have e0 : k = 27 := by omega
    refine ⟨27, ?_⟩
    unfold alle
    rw [r183_17]
    simp (config := { decide := false, maxSteps := 1000000 }) (disch := first | assumption | exact nlg_i _ | exact nlg_r _ | exact nlg_n | omega | decide) only [r183_0, r183_1, r183_2, r183_3, r183_4, r183_7, r183_9, r183_10, r183_13, r183_14, r183_15, r183_16, r183_18, r183_20, r183_24, r183_27, r183_28, r183_31, r183_33, r183_35, r183_36, r183_37, r183_38, r183_39, r183_40, r183_41, r183_42, r183_45, r183_47, r183_48, r183_49, r183_50, r183_53, r183_54, r183_57, r183_58, r183_59, r183_62, r183_66, r183_69, r183_70, r183_71, r183_74, r183_77, r183_78, st_g0_0, st_g0_1, st_g0_2, st_g0_3, st_g0_4, st_p0_4, st_g0_5, st_p0_5, st_g0_6, st_p0_6, st_g0_7, st_p0_7, st_v0, st_g1_0, st_g1_1, st_g1_2, st_g1_3, st_p1_3, st_v1, st_g7_0, st_g7_1, st_p7_1, st_g7_2, st_p7_2, st_v7, st_i2, st_is2, st_i3, st_is3, st_i4, st_is4, st_i5, st_is5, st_i6, st_is6, st_l8, st_ls8, st_y2, st_y3, st_y4, st_y8, st_o100_0, st_o100_1, st_o100_2, st_o100_3, st_o100_4, st_o100_5, st_o100_6, st_o100_7, st_q100_7, st_o100_8, st_q100_8, st_w100, st_o110_0, st_o110_1, st_w110, st_o129_0, st_o129_1, st_q129_1, st_o129_2, st_q129_2, st_w129, st_o205_0, st_o205_1, st_q205_1, st_o205_2, st_o205_3, st_q205_3, st_o205_4, st_q205_4, st_o205_5, st_q205_5, st_o205_6, st_q205_6, st_o205_7, st_q205_7, st_o205_8, st_q205_8, st_o205_9, st_q205_9, st_w205, st_o235_0, st_o235_1, st_o235_2, st_o235_3, st_o235_4, st_o235_5, st_o235_6, st_o235_7, st_q235_7, st_o235_8, st_q235_8, st_o235_9, st_o235_10, st_q235_10, st_o235_11, st_q235_11, st_o235_12, st_q235_12, st_o235_13, st_q235_13, st_o235_14, st_q235_14, st_o235_15, st_q235_15, st_o235_16, st_q235_16, st_o235_17, st_q235_17, st_o235_18, st_q235_18, st_o235_19, st_o235_20, st_o235_21, st_q235_21, st_o235_22, st_q235_22, st_o235_23, st_o235_24, st_q235_24, st_w235, st_a204, st_as204, st_a206, st_as206, st_a216, st_as216, st_a236, st_as236, st_a237, st_as237, st_a238, st_as238, st_a239, st_as239, st_a240, st_as240, st_a241, st_as241, st_a242, st_as242, st_a243, st_as243, st_a244, st_as244, st_a245, st_as245, st_a246, st_as246, st_r130, st_r203, nx_in, nx_clamp, nx_i2n, nx_l2n, nx_add, nx_sub, nx_pred, nx_mul, nx_lt, nx_le, nx_eq, nx_shl, nx_shr, nx_and1, nx_andm, nx_m1, nx_or, nx_dr, nx_rem, nx_kC, nx_ift, nx_iff, e0, ↓nif_lt_t, ↓nif_lt_f, ↓nif_le_t, ↓nif_le_f, ↓nif_eq_t, ↓nif_eq_f, ↓nif_ne_t, ↓nif_ne_f, Nat.one_mul, List.cons_append, List.nil_append, List.append_nil, Option.toList, if_true, if_false, Bool.false_eq_true, and_true, true_and, and_self]
  | succ f ih =>
    intro k hk
    obtain ⟨kk, e1⟩ := ih (k + 1) (by omega)
    have b1 := hA k (by omega)
    unfold alle
    by_cases h : A (34 + 27 * n + k) = A (6 + k)
    · refine ⟨kk, ?_⟩
      rw [if_pos h, r183_17]
      simp (config := { decide := false, maxSteps := 1000000 }) (disch := first | assumption | exact nlg_i _ | exact nlg_r _ | exact nlg_n | omega | decide) only [r183_0, r183_1, r183_2, r183_3, r183_4, r183_7, r183_9, r183_10, r183_13, r183_14, r183_15, r183_16, r183_18, r183_20, r183_23, r183_24, r183_27, r183_28, r183_31, r183_33, r183_35, r183_36, r183_37, r183_38, r183_39, r183_40, r183_41, r183_42, r183_45, r183_47, r183_48, r183_49, r183_50, r183_53, r183_54, r183_57, r183_58, r183_59, r183_62, r183_66, r183_69, r183_70, r183_71, r183_74, r183_77, r183_78, st_g0_0, st_g0_1, st_g0_2, st_g0_3, st_g0_4, st_p0_4, st_g0_5, st_p0_5, st_g0_6, st_p0_6, st_g0_7, st_p0_7, st_v0, st_g1_0, st_g1_1, st_g1_2, st_g1_3, st_p1_3, st_v1, st_g7_0, st_g7_1, st_p7_1, st_g7_2, st_p7_2, st_v7, st_i2, st_is2, st_i3, st_is3, st_i4, st_is4, st_i5, st_is5, st_i6, st_is6, st_l8, st_ls8, st_y2, st_y3, st_y4, st_y8, st_o100_0, st_o100_1, st_o100_2, st_o100_3, st_o100_4, st_o100_5, st_o100_6, st_o100_7, st_q100_7, st_o100_8, st_q100_8, st_w100, st_o110_0, st_o110_1, st_w110, st_o129_0, st_o129_1, st_q129_1, st_o129_2, st_q129_2, st_w129, st_o205_0, st_o205_1, st_q205_1, st_o205_2, st_o205_3, st_q205_3, st_o205_4, st_q205_4, st_o205_5, st_q205_5, st_o205_6, st_q205_6, st_o205_7, st_q205_7, st_o205_8, st_q205_8, st_o205_9, st_q205_9, st_w205, st_o235_0, st_o235_1, st_o235_2, st_o235_3, st_o235_4, st_o235_5, st_o235_6, st_o235_7, st_q235_7, st_o235_8, st_q235_8, st_o235_9, st_o235_10, st_q235_10, st_o235_11, st_q235_11, st_o235_12, st_q235_12, st_o235_13, st_q235_13, st_o235_14, st_q235_14, st_o235_15, st_q235_15, st_o235_16, st_q235_16, st_o235_17, st_q235_17, st_o235_18, st_q235_18, st_o235_19, st_o235_20, st_o235_21, st_q235_21, st_o235_22, st_q235_22, st_o235_23, st_o235_24, st_q235_24, st_w235, st_a204, st_as204, st_a206, st_as206, st_a216, st_as216, st_a236, st_as236, st_a237, st_as237, st_a238, st_as238, st_a239, st_as239, st_a240, st_as240, st_a241, st_as241, st_a242, st_as242, st_a243, st_as243, st_a244, st_as244, st_a245, st_as245, st_a246, st_as246, st_r130, st_r203, nx_in, nx_clamp, nx_i2n, nx_l2n, nx_add, nx_sub, nx_pred, nx_mul, nx_lt, nx_le, nx_eq, nx_shl, nx_shr, nx_and1, nx_andm, nx_m1, nx_or, nx_dr, nx_rem, nx_kC, nx_ift, nx_iff, mw_A, h, e1, ↓nif_lt_t, ↓nif_lt_f, ↓nif_le_t, ↓nif_le_f, ↓nif_eq_t, ↓nif_eq_f, ↓nif_ne_t, ↓nif_ne_f, Nat.one_mul, List.cons_append, List.nil_append, List.append_nil, Option.toList, if_true, if_false, Bool.false_eq_true, and_true, true_and, and_self]
    · refine ⟨k + 1, ?_⟩
      rw [if_neg h, r183_17]
      by_cases hk2 : k + 1 < 27
      · simp (config := { decide := false, maxSteps := 1000000 }) (disch := first | assumption | exact nlg_i _ | exact nlg_r _ | exact nlg_n | omega | decide) only [r183_0, r183_1, r183_2, r183_3, r183_4, r183_7, r183_9, r183_10, r183_13, r183_14, r183_15, r183_16, r183_18, r183_20, r183_23, r183_24, r183_27, r183_28, r183_31, r183_33, r183_35, r183_36, r183_37, r183_38, r183_39, r183_40, r183_41, r183_42, r183_45, r183_47, r183_48, r183_49, r183_50, r183_53, r183_54, r183_57, r183_58, r183_59, r183_62, r183_66, r183_69, r183_70, r183_71, r183_74, r183_77, r183_78, st_g0_0, st_g0_1, st_g0_2, st_g0_3, st_g0_4, st_p0_4, st_g0_5, st_p0_5, st_g0_6, st_p0_6, st_g0_7, st_p0_7, st_v0, st_g1_0, st_g1_1, st_g1_2, st_g1_3, st_p1_3, st_v1, st_g7_0, st_g7_1, st_p7_1, st_g7_2, st_p7_2, st_v7, st_i2, st_is2, st_i3, st_is3, st_i4, st_is4, st_i5, st_is5, st_i6, st_is6, st_l8, st_ls8, st_y2, st_y3, st_y4, st_y8, st_o100_0, st_o100_1, st_o100_2, st_o100_3, st_o100_4, st_o100_5, st_o100_6, st_o100_7, st_q100_7, st_o100_8, st_q100_8, st_w100, st_o110_0, st_o110_1, st_w110, st_o129_0, st_o129_1, st_q129_1, st_o129_2, st_q129_2, st_w129, st_o205_0, st_o205_1, st_q205_1, st_o205_2, st_o205_3, st_q205_3, st_o205_4, st_q205_4, st_o205_5, st_q205_5, st_o205_6, st_q205_6, st_o205_7, st_q205_7, st_o205_8, st_q205_8, st_o205_9, st_q205_9, st_w205, st_o235_0, st_o235_1, st_o235_2, st_o235_3, st_o235_4, st_o235_5, st_o235_6, st_o235_7, st_q235_7, st_o235_8, st_q235_8, st_o235_9, st_o235_10, st_q235_10, st_o235_11, st_q235_11, st_o235_12, st_q235_12, st_o235_13, st_q235_13, st_o235_14, st_q235_14, st_o235_15, st_q235_15, st_o235_16, st_q235_16, st_o235_17, st_q235_17, st_o235_18, st_q235_18, st_o235_19, st_o235_20, st_o235_21, st_q235_21, st_o235_22, st_q235_22, st_o235_23, st_o235_24, st_q235_24, st_w235, st_a204, st_as204, st_a206, st_as206, st_a216, st_as216, st_a236, st_as236, st_a237, st_as237, st_a238, st_as238, st_a239, st_as239, st_a240, st_as240, st_a241, st_as241, st_a242, st_as242, st_a243, st_as243, st_a244, st_as244, st_a245, st_as245, st_a246, st_as246, st_r130, st_r203, nx_in, nx_clamp, nx_i2n, nx_l2n, nx_add, nx_sub, nx_pred, nx_mul, nx_lt, nx_le, nx_eq, nx_shl, nx_shr, nx_and1, nx_andm, nx_m1, nx_or, nx_dr, nx_rem, nx_kC, nx_ift, nx_iff, mw_A, h, ↓nif_lt_t, ↓nif_lt_f, ↓nif_le_t, ↓nif_le_f, ↓nif_eq_t, ↓nif_eq_f, ↓nif_ne_t, ↓nif_ne_f, Nat.one_mul, List.cons_append, List.nil_append, List.append_nil, Option.toList, if_true, if_false, Bool.false_eq_true, and_true, true_and, and_self]
        rw [r183_17]
        simp (config := { decide := false, maxSteps := 1000000 }) (disch := first | assumption | exact nlg_i _ | exact nlg_r _ | exact nlg_n | omega | decide) only [r183_0, r183_1, r183_2, r183_3, r183_4, r183_7, r183_9, r183_10, r183_13, r183_14, r183_15, r183_16, r183_18, r183_20, r183_23, r183_24, r183_28, r183_31, r183_33, r183_35, r183_36, r183_37, r183_38, r183_39, r183_40, r183_41, r183_42, r183_45, r183_47, r183_48, r183_49, r183_50, r183_53, r183_54, r183_57, r183_58, r183_59, r183_62, r183_66, r183_69, r183_70, r183_71, r183_74, r183_77, r183_78, st_g0_0, st_g0_1, st_g0_2, st_g0_3, st_g0_4, st_p0_4, st_g0_5, st_p0_5, st_g0_6, st_p0_6, st_g0_7, st_p0_7, st_v0, st_g1_0, st_g1_1, st_g1_2, st_g1_3, st_p1_3, st_v1, st_g7_0, st_g7_1, st_p7_1, st_g7_2, st_p7_2, st_v7, st_i2, st_is2, st_i3, st_is3, st_i4, st_is4, st_i5, st_is5, st_i6, st_is6, st_l8, st_ls8, st_y2, st_y3, st_y4, st_y8, st_o100_0, st_o100_1, st_o100_2, st_o100_3, st_o100_4, st_o100_5, st_o100_6, st_o100_7, st_q100_7, st_o100_8, st_q100_8, st_w100, st_o110_0, st_o110_1, st_w110, st_o129_0, st_o129_1, st_q129_1, st_o129_2, st_q129_2, st_w129, st_o205_0, st_o205_1, st_q205_1, st_o205_2, st_o205_3, st_q205_3, st_o205_4, st_q205_4, st_o205_5, st_q205_5, st_o205_6, st_q205_6, st_o205_7, st_q205_7, st_o205_8, st_q205_8, st_o205_9, st_q205_9, st_w205, st_o235_0, st_o235_1, st_o235_2, st_o235_3, st_o235_4, st_o235_5, st_o235_6, st_o235_7, st_q235_7, st_o235_8, st_q235_8, st_o235_9, st_o235_10, st_q235_10, st_o235_11, st_q235_11, st_o235_12, st_q235_12, st_o235_13, st_q235_13, st_o235_14, st_q235_14, st_o235_15, st_q235_15, st_o235_16, st_q235_16, st_o235_17, st_q235_17, st_o235_18, st_q235_18, st_o235_19, st_o235_20, st_o235_21, st_q235_21, st_o235_22, st_q235_22, st_o235_23, st_o235_24, st_q235_24, st_w235, st_a204, st_as204, st_a206, st_as206, st_a216, st_as216, st_a236, st_as236, st_a237, st_as237, st_a238, st_as238, st_a239, st_as239, st_a240, st_as240, st_a241, st_as241, st_a242, st_as242, st_a243, st_as243, st_a244, st_as244, st_a245, st_as245, st_a246, st_as246, st_r130, st_r203, nx_in, nx_clamp, nx_i2n, nx_l2n, nx_add, nx_sub, nx_pred, nx_mul, nx_lt, nx_le, nx_eq, nx_shl, nx_shr, nx_and1, nx_andm, nx_m1, nx_or, nx_dr, nx_rem, nx_kC, nx_ift, nx_iff, ↓nif_lt_t, ↓nif_lt_f, ↓nif_le_t, ↓nif_le_f, ↓nif_eq_t, ↓nif_eq_f, ↓nif_ne_t, ↓nif_ne_f, Nat.one_mul, List.cons_append, List.nil_append, List.append_nil, Option.toList, if_true, if_false, Bool.false_eq_true, and_true, true_and, and_self]
      · simp (config := { decide := false, maxSteps := 1000000 }) (disch := first | assumption | exact nlg_i _ | exact nlg_r _ | exact nlg_n | omega | decide) only [r183_0, r183_1, r183_2, r183_3, r183_4, r183_7, r183_9, r183_10, r183_13, r183_14, r183_15, r183_16, r183_18, r183_20, r183_23, r183_24, r183_27, r183_28, r183_31, r183_33, r183_35, r183_36, r183_37, r183_38, r183_39, r183_40, r183_41, r183_42, r183_45, r183_47, r183_48, r183_49, r183_50, r183_53, r183_54, r183_57, r183_58, r183_59, r183_62, r183_66, r183_69, r183_70, r183_71, r183_74, r183_77, r183_78, st_g0_0, st_g0_1, st_g0_2, st_g0_3, st_g0_4, st_p0_4, st_g0_5, st_p0_5, st_g0_6, st_p0_6, st_g0_7, st_p0_7, st_v0, st_g1_0, st_g1_1, st_g1_2, st_g1_3, st_p1_3, st_v1, st_g7_0, st_g7_1, st_p7_1, st_g7_2, st_p7_2, st_v7, st_i2, st_is2, st_i3, st_is3, st_i4, st_is4, st_i5, st_is5, st_i6, st_is6, st_l8, st_ls8, st_y2, st_y3, st_y4, st_y8, st_o100_0, st_o100_1, st_o100_2, st_o100_3, st_o100_4, st_o100_5, st_o100_6, st_o100_7, st_q100_7, st_o100_8, st_q100_8, st_w100, st_o110_0, st_o110_1, st_w110, st_o129_0, st_o129_1, st_q129_1, st_o129_2, st_q129_2, st_w129, st_o205_0, st_o205_1, st_q205_1, st_o205_2, st_o205_3, st_q205_3, st_o205_4, st_q205_4, st_o205_5, st_q205_5, st_o205_6, st_q205_6, st_o205_7, st_q205_7, st_o205_8, st_q205_8, st_o205_9, st_q205_9, st_w205, st_o235_0, st_o235_1, st_o235_2, st_o235_3, st_o235_4, st_o235_5, st_o235_6, st_o235_7, st_q235_7, st_o235_8, st_q235_8, st_o235_9, st_o235_10, st_q235_10, st_o235_11, st_q235_11, st_o235_12, st_q235_12, st_o235_13, st_q235_13, st_o235_14, st_q235_14, st_o235_15, st_q235_15, st_o235_16, st_q235_16, st_o235_17, st_q235_17, st_o235_18, st_q235_18, st_o235_19, st_o235_20, st_o235_21, st_q235_21, st_o235_22, st_q235_22, st_o235_23, st_o235_24, st_q235_24, st_w235, st_a204, st_as204, st_a206, st_as206, st_a216, st_as216, st_a236, st_as236, st_a237, st_as237, st_a238, st_as238, st_a239, st_as239, st_a240, st_as240, st_a241, st_as241, st_a242, st_as242, st_a243, st_as243, st_a244, st_as244, st_a245, st_as245, st_a246, st_as246, st_r130, st_r203, nx_in, nx_clamp, nx_i2n, nx_l2n, nx_add, nx_sub, nx_pred, nx_mul, nx_lt, nx_le, nx_eq, nx_shl, nx_shr, nx_and1, nx_andm, nx_m1, nx_or, nx_dr, nx_rem, nx_kC, nx_ift, nx_iff, mw_A, h, ↓nif_lt_t, ↓nif_lt_f, ↓nif_le_t, ↓nif_le_f, ↓nif_eq_t, ↓nif_eq_f, ↓nif_ne_t, ↓nif_ne_f, Nat.one_mul, List.cons_append, List.nil_append, List.append_nil, Option.toList, if_true, if_false, Bool.false_eq_true, and_true, true_and, and_self]
        rw [r183_17]
        simp (config := { decide := false, maxSteps := 1000000 }) (disch := first | assumption | exact nlg_i _ | exact nlg_r _ | exact nlg_n | omega | decide) only [r183_0, r183_1, r183_2, r183_3, r183_4, r183_7, r183_9, r183_10, r183_13, r183_14, r183_15, r183_16, r183_18, r183_20, r183_24, r183_27, r183_28, r183_31, r183_33, r183_35, r183_36, r183_37, r183_38, r183_39, r183_40, r183_41, r183_42, r183_45, r183_47, r183_48, r183_49, r183_50, r183_53, r183_54, r183_57, r183_58, r183_59, r183_62, r183_66, r183_69, r183_70, r183_71, r183_74, r183_77, r183_78, st_g0_0, st_g0_1, st_g0_2, st_g0_3, st_g0_4, st_p0_4, st_g0_5, st_p0_5, st_g0_6, st_p0_6, st_g0_7, st_p0_7, st_v0, st_g1_0, st_g1_1, st_g1_2, st_g1_3, st_p1_3, st_v1, st_g7_0, st_g7_1, st_p7_1, st_g7_2, st_p7_2, st_v7, st_i2, st_is2, st_i3, st_is3, st_i4, st_is4, st_i5, st_is5, st_i6, st_is6, st_l8, st_ls8, st_y2, st_y3, st_y4, st_y8, st_o100_0, st_o100_1, st_o100_2, st_o100_3, st_o100_4, st_o100_5, st_o100_6, st_o100_7, st_q100_7, st_o100_8, st_q100_8, st_w100, st_o110_0, st_o110_1, st_w110, st_o129_0, st_o129_1, st_q129_1, st_o129_2, st_q129_2, st_w129, st_o205_0, st_o205_1, st_q205_1, st_o205_2, st_o205_3, st_q205_3, st_o205_4, st_q205_4, st_o205_5, st_q205_5, st_o205_6, st_q205_6, st_o205_7, st_q205_7, st_o205_8, st_q205_8, st_o205_9, st_q205_9, st_w205, st_o235_0, st_o235_1, st_o235_2, st_o235_3, st_o235_4, st_o235_5, st_o235_6, st_o235_7, st_q235_7, st_o235_8, st_q235_8, st_o235_9, st_o235_10, st_q235_10, st_o235_11, st_q235_11, st_o235_12, st_q235_12, st_o235_13, st_q235_13, st_o235_14, st_q235_14, st_o235_15, st_q235_15, st_o235_16, st_q235_16, st_o235_17, st_q235_17, st_o235_18, st_q235_18, st_o235_19, st_o235_20, st_o235_21, st_q235_21, st_o235_22, st_q235_22, st_o235_23, st_o235_24, st_q235_24, st_w235, st_a204, st_as204, st_a206, st_as206, st_a216, st_as216, st_a236, st_as236, st_a237, st_as237, st_a238, st_as238, st_a239, st_as239, st_a240, st_as240, st_a241, st_as241, st_a242, st_as242, st_a243, st_as243, st_a244, st_as244, st_a245, st_as245, st_a246, st_as246, st_r130, st_r203, nx_in, nx_clamp, nx_i2n, nx_l2n, nx_add, nx_sub, nx_pred, nx_mul, nx_lt, nx_le, nx_eq, nx_shl, nx_shr, nx_and1, nx_andm, nx_m1, nx_or, nx_dr, nx_rem, nx_kC, nx_ift, nx_iff, ↓nif_lt_t, ↓nif_lt_f, ↓nif_le_t, ↓nif_le_f, ↓nif_eq_t, ↓nif_eq_f, ↓nif_ne_t, ↓nif_ne_f, Nat.one_mul, List.cons_append, List.nil_append, List.append_nil, Option.toList, if_true, if_false, Bool.false_eq_true, and_true, true_and, and_self]
def wst (A : Nat → Nat) : Nat → Nat → Nat
  | 0, _ => 0
  | f + 1, j => if alle A j 27 0 = 1 then 1 else wst A f (j + 1)
theorem s183h (h33 : A 33 ≤ 20) (hA : ∀ j, j < A 33 → ∀ i, i < 27 → A (34 + 27 * j + i) < 2 ^ 31) (hA6 : ∀ i, i < 27 → A (6 + i) < 2 ^ 31) : ∀ f j x2 x3, f + j = A 33 → xi_nlg x2 = true → ev xs L 183 2 [.ref 235, .int (nI j), x2, x3] [] (hS (mw S A B C P H ls gv) t) = some (.inl (some (.int (nI (wst A f j)))), hS (mw S A B C P H ls gv) t) := by
  intro f
  induction f with
  | zero =>
    intro j x2 x3 hj hx
    have e0 : j = A 33 := by omega
    unfold wst
    rw [r183_2]
    simp (config := { decide := false, maxSteps := 1000000 }) (disch := first | assumption | exact nlg_i _ | exact nlg_r _ | exact nlg_n | omega | decide) only [r183_0, r183_1, r183_3, r183_4, r183_7, r183_9, r183_10, r183_14, r183_15, r183_16, r183_17, r183_18, r183_20, r183_23, r183_24, r183_27, r183_28, r183_31, r183_33, r183_35, r183_36, r183_37, r183_38, r183_39, r183_40, r183_41, r183_42, r183_45, r183_47, r183_48, r183_49, r183_50, r183_53, r183_54, r183_57, r183_58, r183_59, r183_62, r183_65, r183_66, r183_69, r183_70, r183_71, r183_74, r183_77, r183_78, st_g0_0, st_g0_1, st_g0_2, st_g0_3, st_g0_4, st_p0_4, st_g0_5, st_p0_5, st_g0_6, st_p0_6, st_g0_7, st_p0_7, st_v0, st_g1_0, st_g1_1, st_g1_2, st_g1_3, st_p1_3, st_v1, st_g7_0, st_g7_1, st_p7_1, st_g7_2, st_p7_2, st_v7, st_i2, st_is2, st_i3, st_is3, st_i4, st_is4, st_i5, st_is5, st_i6, st_is6, st_l8, st_ls8, st_y2, st_y3, st_y4, st_y8, st_o100_0, st_o100_1, st_o100_2, st_o100_3, st_o100_4, st_o100_5, st_o100_6, st_o100_7, st_q100_7, st_o100_8, st_q100_8, st_w100, st_o110_0, st_o110_1, st_w110, st_o129_0, st_o129_1, st_q129_1, st_o129_2, st_q129_2, st_w129, st_o205_0, st_o205_1, st_q205_1, st_o205_2, st_o205_3, st_q205_3, st_o205_4, st_q205_4, st_o205_5, st_q205_5, st_o205_6, st_q205_6, st_o205_7, st_q205_7, st_o205_8, st_q205_8, st_o205_9, st_q205_9, st_w205, st_o235_0, st_o235_1, st_o235_2, st_o235_3, st_o235_4, st_o235_5, st_o235_6, st_o235_7, st_q235_7, st_o235_8, st_q235_8, st_o235_9, st_o235_10, st_q235_10, st_o235_11, st_q235_11, st_o235_12, st_q235_12, st_o235_13, st_q235_13, st_o235_14, st_q235_14, st_o235_15, st_q235_15, st_o235_16, st_q235_16, st_o235_17, st_q235_17, st_o235_18, st_q235_18, st_o235_19, st_o235_20, st_o235_21, st_q235_21, st_o235_22, st_q235_22, st_o235_23, st_o235_24, st_q235_24, st_w235, st_a204, st_as204, st_a206, st_as206, st_a216, st_as216, st_a236, st_as236, st_a237, st_as237, st_a238, st_as238, st_a239, st_as239, st_a240, st_as240, st_a241, st_as241, st_a242, st_as242, st_a243, st_as243, st_a244, st_as244, st_a245, st_as245, st_a246, st_as246, st_r130, st_r203, nx_in, nx_clamp, nx_i2n, nx_l2n, nx_add, nx_sub, nx_pred, nx_mul, nx_lt, nx_le, nx_eq, nx_shl, nx_shr, nx_and1, nx_andm, nx_m1, nx_or, nx_dr, nx_rem, nx_kC, nx_ift, nx_iff, mw_A, e0, ↓nif_lt_t, ↓nif_lt_f, ↓nif_le_t, ↓nif_le_f, ↓nif_eq_t, ↓nif_eq_f, ↓nif_ne_t, ↓nif_ne_f, Nat.one_mul, List.cons_append, List.nil_append, List.append_nil, Option.toList, if_true, if_false, Bool.false_eq_true, and_true, true_and, and_self]
  | succ f ih =>
    intro j x2 x3 hj hx
    have hj2 : j < A 33 := by omega
    obtain ⟨kk, e1⟩ := s183i (xs := xs) (L := L) (S := S) (t := t) (A := A) (B := B) (C := C) (P := P) (H := H) (ls := ls) (gv := gv) (n := j) (by omega) (fun i hi => ⟨hA j hj2 i hi, hA6 i hi⟩) 27 0 rfl
    unfold wst
    rcases alle_2 (A := A) (n := j) 27 0 with z | z
    · have e2 := ih (j + 1) (.int (nI 0)) (.int (nI kk)) (by omega) rfl
      rw [z] at e1
      rw [z, if_neg (by decide), r183_2]
      simp (config := { decide := false, maxSteps := 1000000 }) (disch := first | assumption | exact nlg_i _ | exact nlg_r _ | exact nlg_n | omega | decide) only [r183_0, r183_1, r183_3, r183_4, r183_7, r183_9, r183_10, r183_13, r183_14, r183_15, r183_16, r183_18, r183_20, r183_23, r183_24, r183_27, r183_28, r183_31, r183_33, r183_35, r183_36, r183_37, r183_38, r183_39, r183_40, r183_41, r183_42, r183_45, r183_47, r183_48, r183_49, r183_50, r183_53, r183_54, r183_57, r183_58, r183_59, r183_62, r183_66, r183_69, r183_70, r183_71, r183_74, r183_77, r183_78, st_g0_0, st_g0_1, st_g0_2, st_g0_3, st_g0_4, st_p0_4, st_g0_5, st_p0_5, st_g0_6, st_p0_6, st_g0_7, st_p0_7, st_v0, st_g1_0, st_g1_1, st_g1_2, st_g1_3, st_p1_3, st_v1, st_g7_0, st_g7_1, st_p7_1, st_g7_2, st_p7_2, st_v7, st_i2, st_is2, st_i3, st_is3, st_i4, st_is4, st_i5, st_is5, st_i6, st_is6, st_l8, st_ls8, st_y2, st_y3, st_y4, st_y8, st_o100_0, st_o100_1, st_o100_2, st_o100_3, st_o100_4, st_o100_5, st_o100_6, st_o100_7, st_q100_7, st_o100_8, st_q100_8, st_w100, st_o110_0, st_o110_1, st_w110, st_o129_0, st_o129_1, st_q129_1, st_o129_2, st_q129_2, st_w129, st_o205_0, st_o205_1, st_q205_1, st_o205_2, st_o205_3, st_q205_3, st_o205_4, st_q205_4, st_o205_5, st_q205_5, st_o205_6, st_q205_6, st_o205_7, st_q205_7, st_o205_8, st_q205_8, st_o205_9, st_q205_9, st_w205, st_o235_0, st_o235_1, st_o235_2, st_o235_3, st_o235_4, st_o235_5, st_o235_6, st_o235_7, st_q235_7, st_o235_8, st_q235_8, st_o235_9, st_o235_10, st_q235_10, st_o235_11, st_q235_11, st_o235_12, st_q235_12, st_o235_13, st_q235_13, st_o235_14, st_q235_14, st_o235_15, st_q235_15, st_o235_16, st_q235_16, st_o235_17, st_q235_17, st_o235_18, st_q235_18, st_o235_19, st_o235_20, st_o235_21, st_q235_21, st_o235_22, st_q235_22, st_o235_23, st_o235_24, st_q235_24, st_w235, st_a204, st_as204, st_a206, st_as206, st_a216, st_as216, st_a236, st_as236, st_a237, st_as237, st_a238, st_as238, st_a239, st_as239, st_a240, st_as240, st_a241, st_as241, st_a242, st_as242, st_a243, st_as243, st_a244, st_as244, st_a245, st_as245, st_a246, st_as246, st_r130, st_r203, nx_in, nx_clamp, nx_i2n, nx_l2n, nx_add, nx_sub, nx_pred, nx_mul, nx_lt, nx_le, nx_eq, nx_shl, nx_shr, nx_and1, nx_andm, nx_m1, nx_or, nx_dr, nx_rem, nx_kC, nx_ift, nx_iff, mw_A, e1, ↓nif_lt_t, ↓nif_lt_f, ↓nif_le_t, ↓nif_le_f, ↓nif_eq_t, ↓nif_eq_f, ↓nif_ne_t, ↓nif_ne_f, Nat.one_mul, List.cons_append, List.nil_append, List.append_nil, Option.toList, if_true, if_false, Bool.false_eq_true, and_true, true_and, and_self]
      rw [r183_65]
      simp (config := { decide := false, maxSteps := 1000000 }) (disch := first | assumption | exact nlg_i _ | exact nlg_r _ | exact nlg_n | omega | decide) only [r183_0, r183_1, r183_3, r183_4, r183_7, r183_9, r183_10, r183_13, r183_14, r183_15, r183_16, r183_18, r183_20, r183_23, r183_24, r183_27, r183_28, r183_31, r183_33, r183_35, r183_36, r183_37, r183_38, r183_39, r183_40, r183_41, r183_42, r183_45, r183_47, r183_48, r183_49, r183_50, r183_53, r183_54, r183_57, r183_58, r183_59, r183_62, r183_66, r183_70, r183_71, r183_74, r183_77, r183_78, st_g0_0, st_g0_1, st_g0_2, st_g0_3, st_g0_4, st_p0_4, st_g0_5, st_p0_5, st_g0_6, st_p0_6, st_g0_7, st_p0_7, st_v0, st_g1_0, st_g1_1, st_g1_2, st_g1_3, st_p1_3, st_v1, st_g7_0, st_g7_1, st_p7_1, st_g7_2, st_p7_2, st_v7, st_i2, st_is2, st_i3, st_is3, st_i4, st_is4, st_i5, st_is5, st_i6, st_is6, st_l8, st_ls8, st_y2, st_y3, st_y4, st_y8, st_o100_0, st_o100_1, st_o100_2, st_o100_3, st_o100_4, st_o100_5, st_o100_6, st_o100_7, st_q100_7, st_o100_8, st_q100_8, st_w100, st_o110_0, st_o110_1, st_w110, st_o129_0, st_o129_1, st_q129_1, st_o129_2, st_q129_2, st_w129, st_o205_0, st_o205_1, st_q205_1, st_o205_2, st_o205_3, st_q205_3, st_o205_4, st_q205_4, st_o205_5, st_q205_5, st_o205_6, st_q205_6, st_o205_7, st_q205_7, st_o205_8, st_q205_8, st_o205_9, st_q205_9, st_w205, st_o235_0, st_o235_1, st_o235_2, st_o235_3, st_o235_4, st_o235_5, st_o235_6, st_o235_7, st_q235_7, st_o235_8, st_q235_8, st_o235_9, st_o235_10, st_q235_10, st_o235_11, st_q235_11, st_o235_12, st_q235_12, st_o235_13, st_q235_13, st_o235_14, st_q235_14, st_o235_15, st_q235_15, st_o235_16, st_q235_16, st_o235_17, st_q235_17, st_o235_18, st_q235_18, st_o235_19, st_o235_20, st_o235_21, st_q235_21, st_o235_22, st_q235_22, st_o235_23, st_o235_24, st_q235_24, st_w235, st_a204, st_as204, st_a206, st_as206, st_a216, st_as216, st_a236, st_as236, st_a237, st_as237, st_a238, st_as238, st_a239, st_as239, st_a240, st_as240, st_a241, st_as241, st_a242, st_as242, st_a243, st_as243, st_a244, st_as244, st_a245, st_as245, st_a246, st_as246, st_r130, st_r203, nx_in, nx_clamp, nx_i2n, nx_l2n, nx_add, nx_sub, nx_pred, nx_mul, nx_lt, nx_le, nx_eq, nx_shl, nx_shr, nx_and1, nx_andm, nx_m1, nx_or, nx_dr, nx_rem, nx_kC, nx_ift, nx_iff, e2, ↓nif_lt_t, ↓nif_lt_f, ↓nif_le_t, ↓nif_le_f, ↓nif_eq_t, ↓nif_eq_f, ↓nif_ne_t, ↓nif_ne_f, Nat.one_mul, List.cons_append, List.nil_append, List.append_nil, Option.toList, if_true, if_false, Bool.false_eq_true, and_true, true_and, and_self]
    · rw [z] at e1
      rw [z, if_pos rfl, r183_2]
      simp (config := { decide := false, maxSteps := 1000000 }) (disch := first | assumption | exact nlg_i _ | exact nlg_r _ | exact nlg_n | omega | decide) only [r183_0, r183_1, r183_3, r183_4, r183_7, r183_9, r183_10, r183_13, r183_14, r183_15, r183_16, r183_18, r183_20, r183_23, r183_24, r183_27, r183_28, r183_31, r183_33, r183_35, r183_36, r183_37, r183_38, r183_39, r183_40, r183_41, r183_42, r183_45, r183_47, r183_48, r183_49, r183_50, r183_53, r183_54, r183_57, r183_58, r183_59, r183_62, r183_66, r183_69, r183_70, r183_71, r183_74, r183_77, r183_78, st_g0_0, st_g0_1, st_g0_2, st_g0_3, st_g0_4, st_p0_4, st_g0_5, st_p0_5, st_g0_6, st_p0_6, st_g0_7, st_p0_7, st_v0, st_g1_0, st_g1_1, st_g1_2, st_g1_3, st_p1_3, st_v1, st_g7_0, st_g7_1, st_p7_1, st_g7_2, st_p7_2, st_v7, st_i2, st_is2, st_i3, st_is3, st_i4, st_is4, st_i5, st_is5, st_i6, st_is6, st_l8, st_ls8, st_y2, st_y3, st_y4, st_y8, st_o100_0, st_o100_1, st_o100_2, st_o100_3, st_o100_4, st_o100_5, st_o100_6, st_o100_7, st_q100_7, st_o100_8, st_q100_8, st_w100, st_o110_0, st_o110_1, st_w110, st_o129_0, st_o129_1, st_q129_1, st_o129_2, st_q129_2, st_w129, st_o205_0, st_o205_1, st_q205_1, st_o205_2, st_o205_3, st_q205_3, st_o205_4, st_q205_4, st_o205_5, st_q205_5, st_o205_6, st_q205_6, st_o205_7, st_q205_7, st_o205_8, st_q205_8, st_o205_9, st_q205_9, st_w205, st_o235_0, st_o235_1, st_o235_2, st_o235_3, st_o235_4, st_o235_5, st_o235_6, st_o235_7, st_q235_7, st_o235_8, st_q235_8, st_o235_9, st_o235_10, st_q235_10, st_o235_11, st_q235_11, st_o235_12, st_q235_12, st_o235_13, st_q235_13, st_o235_14, st_q235_14, st_o235_15, st_q235_15, st_o235_16, st_q235_16, st_o235_17, st_q235_17, st_o235_18, st_q235_18, st_o235_19, st_o235_20, st_o235_21, st_q235_21, st_o235_22, st_q235_22, st_o235_23, st_o235_24, st_q235_24, st_w235, st_a204, st_as204, st_a206, st_as206, st_a216, st_as216, st_a236, st_as236, st_a237, st_as237, st_a238, st_as238, st_a239, st_as239, st_a240, st_as240, st_a241, st_as241, st_a242, st_as242, st_a243, st_as243, st_a244, st_as244, st_a245, st_as245, st_a246, st_as246, st_r130, st_r203, nx_in, nx_clamp, nx_i2n, nx_l2n, nx_add, nx_sub, nx_pred, nx_mul, nx_lt, nx_le, nx_eq, nx_shl, nx_shr, nx_and1, nx_andm, nx_m1, nx_or, nx_dr, nx_rem, nx_kC, nx_ift, nx_iff, mw_A, e1, ↓nif_lt_t, ↓nif_lt_f, ↓nif_le_t, ↓nif_le_f, ↓nif_eq_t, ↓nif_eq_f, ↓nif_ne_t, ↓nif_ne_f, Nat.one_mul, List.cons_append, List.nil_append, List.append_nil, Option.toList, if_true, if_false, Bool.false_eq_true, and_true, true_and, and_self]
      rw [r183_65]
      simp (config := { decide := false, maxSteps := 1000000 }) (disch := first | assumption | exact nlg_i _ | exact nlg_r _ | exact nlg_n | omega | decide) only [r183_0, r183_1, r183_3, r183_4, r183_7, r183_9, r183_10, r183_13, r183_14, r183_15, r183_16, r183_18, r183_20, r183_23, r183_24, r183_27, r183_28, r183_31, r183_33, r183_35, r183_36, r183_37, r183_38, r183_39, r183_40, r183_41, r183_42, r183_45, r183_47, r183_48, r183_49, r183_50, r183_53, r183_54, r183_57, r183_58, r183_59, r183_62, r183_66, r183_69, r183_70, r183_74, r183_77, r183_78, st_g0_0, st_g0_1, st_g0_2, st_g0_3, st_g0_4, st_p0_4, st_g0_5, st_p0_5, st_g0_6, st_p0_6, st_g0_7, st_p0_7, st_v0, st_g1_0, st_g1_1, st_g1_2, st_g1_3, st_p1_3, st_v1, st_g7_0, st_g7_1, st_p7_1, st_g7_2, st_p7_2, st_v7, st_i2, st_is2, st_i3, st_is3, st_i4, st_is4, st_i5, st_is5, st_i6, st_is6, st_l8, st_ls8, st_y2, st_y3, st_y4, st_y8, st_o100_0, st_o100_1, st_o100_2, st_o100_3, st_o100_4, st_o100_5, st_o100_6, st_o100_7, st_q100_7, st_o100_8, st_q100_8, st_w100, st_o110_0, st_o110_1, st_w110, st_o129_0, st_o129_1, st_q129_1, st_o129_2, st_q129_2, st_w129, st_o205_0, st_o205_1, st_q205_1, st_o205_2, st_o205_3, st_q205_3, st_o205_4, st_q205_4, st_o205_5, st_q205_5, st_o205_6, st_q205_6, st_o205_7, st_q205_7, st_o205_8, st_q205_8, st_o205_9, st_q205_9, st_w205, st_o235_0, st_o235_1, st_o235_2, st_o235_3, st_o235_4, st_o235_5, st_o235_6, st_o235_7, st_q235_7, st_o235_8, st_q235_8, st_o235_9, st_o235_10, st_q235_10, st_o235_11, st_q235_11, st_o235_12, st_q235_12, st_o235_13, st_q235_13, st_o235_14, st_q235_14, st_o235_15, st_q235_15, st_o235_16, st_q235_16, st_o235_17, st_q235_17, st_o235_18, st_q235_18, st_o235_19, st_o235_20, st_o235_21, st_q235_21, st_o235_22, st_q235_22, st_o235_23, st_o235_24, st_q235_24, st_w235, st_a204, st_as204, st_a206, st_as206, st_a216, st_as216, st_a236, st_as236, st_a237, st_as237, st_a238, st_as238, st_a239, st_as239, st_a240, st_as240, st_a241, st_as241, st_a242, st_as242, st_a243, st_as243, st_a244, st_as244, st_a245, st_as245, st_a246, st_as246, st_r130, st_r203, nx_in, nx_clamp, nx_i2n, nx_l2n, nx_add, nx_sub, nx_pred, nx_mul, nx_lt, nx_le, nx_eq, nx_shl, nx_shr, nx_and1, nx_andm, nx_m1, nx_or, nx_dr, nx_rem, nx_kC, nx_ift, nx_iff, ↓nif_lt_t, ↓nif_lt_f, ↓nif_le_t, ↓nif_le_f, ↓nif_eq_t, ↓nif_eq_f, ↓nif_ne_t, ↓nif_ne_f, Nat.one_mul, List.cons_append, List.nil_append, List.append_nil, Option.toList, if_true, if_false, Bool.false_eq_true, and_true, true_and, and_self]
theorem s183 (h33 : A 33 ≤ 20) (hA : ∀ j, j < A 33 → ∀ i, i < 27 → A (34 + 27 * j + i) < 2 ^ 31) (hA6 : ∀ i, i < 27 → A (6 + i) < 2 ^ 31) : ev xs L 183 0 [.ref 235, .null, .null, .null] [] (hS (mw S A B C P H ls gv) t) = some (.inl (some (.int (nI (wst A (A 33) 0)))), hS (mw S A B C P H ls gv) t) := by
  have e := s183h (xs := xs) (L := L) (S := S) (t := t) (A := A) (B := B) (C := C) (P := P) (H := H) (ls := ls) (gv := gv) h33 hA hA6 (A 33) 0 .null .null rfl rfl
  simp (config := { decide := false, maxSteps := 1000000 }) (disch := first | assumption | exact nlg_i _ | exact nlg_r _ | exact nlg_n | omega | decide) only [r183_0, r183_1, r183_3, r183_4, r183_7, r183_9, r183_10, r183_13, r183_14, r183_15, r183_16, r183_17, r183_18, r183_20, r183_23, r183_24, r183_27, r183_28, r183_31, r183_33, r183_35, r183_36, r183_37, r183_38, r183_39, r183_40, r183_41, r183_42, r183_45, r183_47, r183_48, r183_49, r183_50, r183_53, r183_54, r183_57, r183_58, r183_59, r183_62, r183_65, r183_66, r183_69, r183_70, r183_71, r183_74, r183_77, r183_78, st_g0_0, st_g0_1, st_g0_2, st_g0_3, st_g0_4, st_p0_4, st_g0_5, st_p0_5, st_g0_6, st_p0_6, st_g0_7, st_p0_7, st_v0, st_g1_0, st_g1_1, st_g1_2, st_g1_3, st_p1_3, st_v1, st_g7_0, st_g7_1, st_p7_1, st_g7_2, st_p7_2, st_v7, st_i2, st_is2, st_i3, st_is3, st_i4, st_is4, st_i5, st_is5, st_i6, st_is6, st_l8, st_ls8, st_y2, st_y3, st_y4, st_y8, st_o100_0, st_o100_1, st_o100_2, st_o100_3, st_o100_4, st_o100_5, st_o100_6, st_o100_7, st_q100_7, st_o100_8, st_q100_8, st_w100, st_o110_0, st_o110_1, st_w110, st_o129_0, st_o129_1, st_q129_1, st_o129_2, st_q129_2, st_w129, st_o205_0, st_o205_1, st_q205_1, st_o205_2, st_o205_3, st_q205_3, st_o205_4, st_q205_4, st_o205_5, st_q205_5, st_o205_6, st_q205_6, st_o205_7, st_q205_7, st_o205_8, st_q205_8, st_o205_9, st_q205_9, st_w205, st_o235_0, st_o235_1, st_o235_2, st_o235_3, st_o235_4, st_o235_5, st_o235_6, st_o235_7, st_q235_7, st_o235_8, st_q235_8, st_o235_9, st_o235_10, st_q235_10, st_o235_11, st_q235_11, st_o235_12, st_q235_12, st_o235_13, st_q235_13, st_o235_14, st_q235_14, st_o235_15, st_q235_15, st_o235_16, st_q235_16, st_o235_17, st_q235_17, st_o235_18, st_q235_18, st_o235_19, st_o235_20, st_o235_21, st_q235_21, st_o235_22, st_q235_22, st_o235_23, st_o235_24, st_q235_24, st_w235, st_a204, st_as204, st_a206, st_as206, st_a216, st_as216, st_a236, st_as236, st_a237, st_as237, st_a238, st_as238, st_a239, st_as239, st_a240, st_as240, st_a241, st_as241, st_a242, st_as242, st_a243, st_as243, st_a244, st_as244, st_a245, st_as245, st_a246, st_as246, st_r130, st_r203, nx_in, nx_clamp, nx_i2n, nx_l2n, nx_add, nx_sub, nx_pred, nx_mul, nx_lt, nx_le, nx_eq, nx_shl, nx_shr, nx_and1, nx_andm, nx_m1, nx_or, nx_dr, nx_rem, nx_kC, nx_ift, nx_iff, e, ↓nif_lt_t, ↓nif_lt_f, ↓nif_le_t, ↓nif_le_f, ↓nif_eq_t, ↓nif_eq_f, ↓nif_ne_t, ↓nif_ne_f, Nat.one_mul, List.cons_append, List.nil_append, List.append_nil, Option.toList, if_true, if_false, Bool.false_eq_true, and_true, true_and, and_self]
theorem ctn_iff (k0 k1 k2 : Nat) : ∀ f j, (ctn k k0 k1 k2 f j = 1 ↔ ∃ x, j ≤ x ∧ x < j + f ∧ k (x * 3) = k0 ∧ k (x * 3 + 1) = k1 ∧ k (x * 3 + 2) = k2) := by
  intro f
  induction f with
  | zero =>
    intro j
    exact ⟨fun z => absurd z (by show ¬ 0 = 1; decide), fun ⟨x, h1, h2, _⟩ => by omega⟩
  | succ f ih =>
    intro j
    unfold ctn
    by_cases h : k (j * 3) = k0 ∧ k (j * 3 + 1) = k1 ∧ k (j * 3 + 2) = k2
    · rw [if_pos h]
      exact ⟨fun _ => ⟨j, Nat.le_refl _, by omega, h⟩, fun _ => rfl⟩
    · rw [if_neg h, ih]
      constructor
      · rintro ⟨x, h1, h2, h3⟩
        exact ⟨x, by omega, by omega, h3⟩
      · rintro ⟨x, h1, h2, h3⟩
        refine ⟨x, ?_, by omega, h3⟩
        by_cases hx : x = j
        · rw [hx] at h3
          exact absurd h3 h
        · omega
theorem wst_iff : ∀ f j, (wst A f j = 1 ↔ ∃ x, j ≤ x ∧ x < j + f ∧ ∀ i, i < 27 → A (34 + 27 * x + i) = A (6 + i)) := by
  intro f
  induction f with
  | zero =>
    intro j
    exact ⟨fun z => absurd z (by show ¬ 0 = 1; decide), fun ⟨x, h1, h2, _⟩ => by omega⟩
  | succ f ih =>
    intro j
    have ha := alle_1 (A := A) (n := j) 27 0
    unfold wst
    by_cases h : alle A j 27 0 = 1
    · rw [if_pos h]
      exact ⟨fun _ => ⟨j, Nat.le_refl _, by omega, fun i hi => ha.mp h i (Nat.zero_le _) (by omega)⟩, fun _ => rfl⟩
    · rw [if_neg h, ih]
      constructor
      · rintro ⟨x, h1, h2, h3⟩
        exact ⟨x, by omega, by omega, h3⟩
      · rintro ⟨x, h1, h2, h3⟩
        refine ⟨x, ?_, by omega, h3⟩
        by_cases hx : x = j
        · rw [hx] at h3
          exact absurd (ha.mpr (fun i _ hi => h3 i (by omega))) h
        · omega
theorem wst_2 : ∀ f j, wst A f j = 0 ∨ wst A f j = 1 := by
  intro f
  induction f with
  | zero => intro j; exact Or.inl rfl
  | succ f ih =>
    intro j
    unfold wst
    split
    · exact Or.inr rfl
    · exact ih _
/-- a repeated position is one in both -/
theorem wst_ctn {A' : Nat → Nat} (h1 : r 7 1 ≤ 20) (h2 : r 7 2 < 20) (hp : prel A r k) (hs : ∀ i, 33 ≤ i → A' i = A i) (hq : gok q) (hqn : q 1 3 = r 1 3) (hm : mrel A' q) : wst A' (A' 33) 0 = ctn k (ky q 0) (ky q 1) (ky q 2) (r 7 1) 0 := by
  obtain ⟨p1, p2, p3⟩ := hp
  have h33 : A' 33 = r 7 1 := by rw [hs 33 (Nat.le_refl _)]; exact p1
  have key : wst A' (A' 33) 0 = 1 ↔ ctn k (ky q 0) (ky q 1) (ky q 2) (r 7 1) 0 = 1 := by
    rw [wst_iff, ctn_iff, h33]
    constructor
    · rintro ⟨x, -, x2, x3⟩
      obtain ⟨q', g1, g2, g3, g4, g5, g6⟩ := p3 x (by omega)
      have hk := (key_eq g1 hq (by rw [g2, hqn])).mpr (fun i hi => by
        rw [← g3 i hi, ← mrel_27 hq hm hi, ← hs _ (by omega)]
        exact x3 i hi)
      refine ⟨slo r x, Nat.zero_le _, ?_, by rw [g4]; exact hk.1, by rw [g5]; exact hk.2.1, by rw [g6]; exact hk.2.2⟩
      have := slo_lt h1 h2 (show x < r 7 1 by omega)
      omega
    · rintro ⟨x, -, x2, x3, x4, x5⟩
      have hj : ∃ j, j < r 7 1 ∧ slo r j = x := by
        by_cases h20 : r 7 1 < 20
        · exact ⟨x, by omega, if_pos h20⟩
        · refine ⟨(x + 20 - r 7 2) % 20, ?_, ?_⟩
          · have : (x + 20 - r 7 2) % 20 < 20 := Nat.mod_lt _ (by decide)
            omega
          · unfold slo
            rw [if_neg h20]
            omega
      obtain ⟨j, j1, j2⟩ := hj
      obtain ⟨q', g1, g2, g3, g4, g5, g6⟩ := p3 j j1
      rw [j2] at g4 g5 g6
      have hv := (key_eq g1 hq (by rw [g2, hqn])).mp ⟨by rw [← g4]; exact x3, by rw [← g5]; exact x4, by rw [← g6]; exact x5⟩
      refine ⟨j, Nat.zero_le _, by omega, fun i hi => ?_⟩
      rw [hs _ (by omega), g3 i hi, hv i hi, mrel_27 hq hm hi]
  rcases wst_2 (A := A') (A' 33) 0 with z | z
  · rcases ctn_2 k (ky q 0) (ky q 1) (ky q 2) (r 7 1) 0 with w | w
    · rw [z, w]
    · have := key.mpr w
      omega
  · rw [z, key.mp z]
/-- the model's row behind 'remembers' -/
def rmA (A : Nat → Nat) : Nat → Nat := if A 33 = 20 then upN (cpy (upN (cpy A 34 61 513) 33 19) 547 6 27) 33 20 else upN (cpy A (34 + 27 * A 33) 6 27) 33 (A 33 + 1)
theorem s125a (hA : ∀ x, x < 574 → A x < 2 ^ 32) : ∀ f j, f + j = 513 → ev xs L 125 15 [.ref 235, .int (nI (34 + j))] [] (hS (mw S (cpy A 34 61 j) B C P H ls gv) t) = ev xs L 125 43 [.ref 235, .int (nI 547)] [] (hS (mw S (cpy A 34 61 513) B C P H ls gv) t) := by
  intro f
  induction f with
  | zero =>
    intro j hj
    have e0 : j = 513 := by omega
    subst e0
    rw [r125_15]
    simp (config := { decide := false, maxSteps := 1000000 }) (disch := first | assumption | exact nlg_i _ | exact nlg_r _ | exact nlg_n | omega | decide) only [r125_0, r125_1, r125_4, r125_6, r125_7, r125_9, r125_12, r125_14, r125_16, r125_19, r125_23, r125_26, r125_27, r125_28, r125_31, r125_32, r125_34, r125_35, r125_36, r125_37, r125_40, r125_44, r125_47, r125_49, r125_50, r125_51, r125_52, r125_53, r125_54, r125_55, r125_56, r125_57, r125_59, r125_62, r125_63, r125_66, r125_68, r125_70, r125_71, r125_74, r125_76, r125_77, r125_78, r125_79, r125_80, r125_81, r125_82, r125_85, r125_87, r125_88, r125_89, r125_90, r125_91, r125_94, r125_97, r125_98, r125_101, r125_103, r125_104, r125_105, r125_106, r125_107, r125_108, st_g0_0, st_g0_1, st_g0_2, st_g0_3, st_g0_4, st_p0_4, st_g0_5, st_p0_5, st_g0_6, st_p0_6, st_g0_7, st_p0_7, st_v0, st_g1_0, st_g1_1, st_g1_2, st_g1_3, st_p1_3, st_v1, st_g7_0, st_g7_1, st_p7_1, st_g7_2, st_p7_2, st_v7, st_i2, st_is2, st_i3, st_is3, st_i4, st_is4, st_i5, st_is5, st_i6, st_is6, st_l8, st_ls8, st_y2, st_y3, st_y4, st_y8, st_o100_0, st_o100_1, st_o100_2, st_o100_3, st_o100_4, st_o100_5, st_o100_6, st_o100_7, st_q100_7, st_o100_8, st_q100_8, st_w100, st_o110_0, st_o110_1, st_w110, st_o129_0, st_o129_1, st_q129_1, st_o129_2, st_q129_2, st_w129, st_o205_0, st_o205_1, st_q205_1, st_o205_2, st_o205_3, st_q205_3, st_o205_4, st_q205_4, st_o205_5, st_q205_5, st_o205_6, st_q205_6, st_o205_7, st_q205_7, st_o205_8, st_q205_8, st_o205_9, st_q205_9, st_w205, st_o235_0, st_o235_1, st_o235_2, st_o235_3, st_o235_4, st_o235_5, st_o235_6, st_o235_7, st_q235_7, st_o235_8, st_q235_8, st_o235_9, st_o235_10, st_q235_10, st_o235_11, st_q235_11, st_o235_12, st_q235_12, st_o235_13, st_q235_13, st_o235_14, st_q235_14, st_o235_15, st_q235_15, st_o235_16, st_q235_16, st_o235_17, st_q235_17, st_o235_18, st_q235_18, st_o235_19, st_o235_20, st_o235_21, st_q235_21, st_o235_22, st_q235_22, st_o235_23, st_o235_24, st_q235_24, st_w235, st_a204, st_as204, st_a206, st_as206, st_a216, st_as216, st_a236, st_as236, st_a237, st_as237, st_a238, st_as238, st_a239, st_as239, st_a240, st_as240, st_a241, st_as241, st_a242, st_as242, st_a243, st_as243, st_a244, st_as244, st_a245, st_as245, st_a246, st_as246, st_r130, st_r203, nx_in, nx_clamp, nx_i2n, nx_l2n, nx_add, nx_sub, nx_pred, nx_mul, nx_lt, nx_le, nx_eq, nx_shl, nx_shr, nx_and1, nx_andm, nx_m1, nx_or, nx_dr, nx_rem, nx_kC, nx_ift, nx_iff, ↓nif_lt_t, ↓nif_lt_f, ↓nif_le_t, ↓nif_le_f, ↓nif_eq_t, ↓nif_eq_f, ↓nif_ne_t, ↓nif_ne_f, Nat.one_mul, List.cons_append, List.nil_append, List.append_nil, Option.toList, if_true, if_false, Bool.false_eq_true, and_true, true_and, and_self]
  | succ f ih =>
    intro j hj
    have e1 := ih (j + 1) (by omega)
    have e2 : cpy A 34 61 j (61 + j) = A (61 + j) := cpy_o (by omega)
    have e3 := hA (61 + j) (by omega)
    rw [← cpy_s] at e1
    have q1 : 34 + j + 27 = 61 + j := by omega
    have q2 : 34 + (j + 1) = 34 + j + 1 := by omega
    rw [q2] at e1
    rw [r125_15]
    simp (config := { decide := false, maxSteps := 1000000 }) (disch := first | assumption | exact nlg_i _ | exact nlg_r _ | exact nlg_n | omega | decide) only [r125_0, r125_1, r125_4, r125_6, r125_7, r125_9, r125_12, r125_14, r125_16, r125_19, r125_22, r125_23, r125_26, r125_27, r125_28, r125_31, r125_32, r125_34, r125_35, r125_36, r125_37, r125_40, r125_44, r125_47, r125_49, r125_50, r125_51, r125_52, r125_53, r125_54, r125_55, r125_56, r125_57, r125_59, r125_62, r125_63, r125_66, r125_68, r125_70, r125_71, r125_74, r125_76, r125_77, r125_78, r125_79, r125_80, r125_81, r125_82, r125_85, r125_87, r125_88, r125_89, r125_90, r125_91, r125_94, r125_97, r125_98, r125_101, r125_103, r125_104, r125_105, r125_106, r125_107, r125_108, st_g0_0, st_g0_1, st_g0_2, st_g0_3, st_g0_4, st_p0_4, st_g0_5, st_p0_5, st_g0_6, st_p0_6, st_g0_7, st_p0_7, st_v0, st_g1_0, st_g1_1, st_g1_2, st_g1_3, st_p1_3, st_v1, st_g7_0, st_g7_1, st_p7_1, st_g7_2, st_p7_2, st_v7, st_i2, st_is2, st_i3, st_is3, st_i4, st_is4, st_i5, st_is5, st_i6, st_is6, st_l8, st_ls8, st_y2, st_y3, st_y4, st_y8, st_o100_0, st_o100_1, st_o100_2, st_o100_3, st_o100_4, st_o100_5, st_o100_6, st_o100_7, st_q100_7, st_o100_8, st_q100_8, st_w100, st_o110_0, st_o110_1, st_w110, st_o129_0, st_o129_1, st_q129_1, st_o129_2, st_q129_2, st_w129, st_o205_0, st_o205_1, st_q205_1, st_o205_2, st_o205_3, st_q205_3, st_o205_4, st_q205_4, st_o205_5, st_q205_5, st_o205_6, st_q205_6, st_o205_7, st_q205_7, st_o205_8, st_q205_8, st_o205_9, st_q205_9, st_w205, st_o235_0, st_o235_1, st_o235_2, st_o235_3, st_o235_4, st_o235_5, st_o235_6, st_o235_7, st_q235_7, st_o235_8, st_q235_8, st_o235_9, st_o235_10, st_q235_10, st_o235_11, st_q235_11, st_o235_12, st_q235_12, st_o235_13, st_q235_13, st_o235_14, st_q235_14, st_o235_15, st_q235_15, st_o235_16, st_q235_16, st_o235_17, st_q235_17, st_o235_18, st_q235_18, st_o235_19, st_o235_20, st_o235_21, st_q235_21, st_o235_22, st_q235_22, st_o235_23, st_o235_24, st_q235_24, st_w235, st_a204, st_as204, st_a206, st_as206, st_a216, st_as216, st_a236, st_as236, st_a237, st_as237, st_a238, st_as238, st_a239, st_as239, st_a240, st_as240, st_a241, st_as241, st_a242, st_as242, st_a243, st_as243, st_a244, st_as244, st_a245, st_as245, st_a246, st_as246, st_r130, st_r203, nx_in, nx_clamp, nx_i2n, nx_l2n, nx_add, nx_sub, nx_pred, nx_mul, nx_lt, nx_le, nx_eq, nx_shl, nx_shr, nx_and1, nx_andm, nx_m1, nx_or, nx_dr, nx_rem, nx_kC, nx_ift, nx_iff, mw_A, mw_sA, q1, e2, e1, ↓nif_lt_t, ↓nif_lt_f, ↓nif_le_t, ↓nif_le_f, ↓nif_eq_t, ↓nif_eq_f, ↓nif_ne_t, ↓nif_ne_f, Nat.one_mul, List.cons_append, List.nil_append, List.append_nil, Option.toList, if_true, if_false, Bool.false_eq_true, and_true, true_and, and_self]
theorem s125b (hA : ∀ x, x < 574 → A x < 2 ^ 32) (h33 : A 33 ≤ 19) : ∀ f j, f + j = 27 → ev xs L 125 56 [.ref 235, .int (nI j)] [] (hS (mw S (cpy A (34 + 27 * A 33) 6 j) B C P H ls gv) t) = some (.inl none, hS (mw S (upN (cpy A (34 + 27 * A 33) 6 27) 33 (A 33 + 1)) B C P H ls gv) t) := by
  intro f
  induction f with
  | zero =>
    intro j hj
    have e0 : j = 27 := by omega
    subst e0
    have e2 : cpy A (34 + 27 * A 33) 6 27 33 = A 33 := cpy_o (by omega)
    rw [r125_56]
    simp (config := { decide := false, maxSteps := 1000000 }) (disch := first | assumption | exact nlg_i _ | exact nlg_r _ | exact nlg_n | omega | decide) only [r125_0, r125_1, r125_4, r125_6, r125_7, r125_9, r125_12, r125_14, r125_15, r125_16, r125_19, r125_22, r125_23, r125_26, r125_27, r125_28, r125_31, r125_32, r125_34, r125_35, r125_36, r125_37, r125_40, r125_43, r125_44, r125_47, r125_49, r125_50, r125_51, r125_52, r125_53, r125_54, r125_55, r125_57, r125_59, r125_63, r125_66, r125_68, r125_70, r125_71, r125_74, r125_76, r125_77, r125_78, r125_79, r125_80, r125_81, r125_82, r125_85, r125_87, r125_88, r125_89, r125_90, r125_91, r125_94, r125_97, r125_98, r125_101, r125_103, r125_104, r125_105, r125_106, r125_107, r125_108, st_g0_0, st_g0_1, st_g0_2, st_g0_3, st_g0_4, st_p0_4, st_g0_5, st_p0_5, st_g0_6, st_p0_6, st_g0_7, st_p0_7, st_v0, st_g1_0, st_g1_1, st_g1_2, st_g1_3, st_p1_3, st_v1, st_g7_0, st_g7_1, st_p7_1, st_g7_2, st_p7_2, st_v7, st_i2, st_is2, st_i3, st_is3, st_i4, st_is4, st_i5, st_is5, st_i6, st_is6, st_l8, st_ls8, st_y2, st_y3, st_y4, st_y8, st_o100_0, st_o100_1, st_o100_2, st_o100_3, st_o100_4, st_o100_5, st_o100_6, st_o100_7, st_q100_7, st_o100_8, st_q100_8, st_w100, st_o110_0, st_o110_1, st_w110, st_o129_0, st_o129_1, st_q129_1, st_o129_2, st_q129_2, st_w129, st_o205_0, st_o205_1, st_q205_1, st_o205_2, st_o205_3, st_q205_3, st_o205_4, st_q205_4, st_o205_5, st_q205_5, st_o205_6, st_q205_6, st_o205_7, st_q205_7, st_o205_8, st_q205_8, st_o205_9, st_q205_9, st_w205, st_o235_0, st_o235_1, st_o235_2, st_o235_3, st_o235_4, st_o235_5, st_o235_6, st_o235_7, st_q235_7, st_o235_8, st_q235_8, st_o235_9, st_o235_10, st_q235_10, st_o235_11, st_q235_11, st_o235_12, st_q235_12, st_o235_13, st_q235_13, st_o235_14, st_q235_14, st_o235_15, st_q235_15, st_o235_16, st_q235_16, st_o235_17, st_q235_17, st_o235_18, st_q235_18, st_o235_19, st_o235_20, st_o235_21, st_q235_21, st_o235_22, st_q235_22, st_o235_23, st_o235_24, st_q235_24, st_w235, st_a204, st_as204, st_a206, st_as206, st_a216, st_as216, st_a236, st_as236, st_a237, st_as237, st_a238, st_as238, st_a239, st_as239, st_a240, st_as240, st_a241, st_as241, st_a242, st_as242, st_a243, st_as243, st_a244, st_as244, st_a245, st_as245, st_a246, st_as246, st_r130, st_r203, nx_in, nx_clamp, nx_i2n, nx_l2n, nx_add, nx_sub, nx_pred, nx_mul, nx_lt, nx_le, nx_eq, nx_shl, nx_shr, nx_and1, nx_andm, nx_m1, nx_or, nx_dr, nx_rem, nx_kC, nx_ift, nx_iff, mw_A, mw_sA, e2, ↓nif_lt_t, ↓nif_lt_f, ↓nif_le_t, ↓nif_le_f, ↓nif_eq_t, ↓nif_eq_f, ↓nif_ne_t, ↓nif_ne_f, Nat.one_mul, List.cons_append, List.nil_append, List.append_nil, Option.toList, if_true, if_false, Bool.false_eq_true, and_true, true_and, and_self]
  | succ f ih =>
    intro j hj
    have e1 := ih (j + 1) (by omega)
    have e2 : cpy A (34 + 27 * A 33) 6 j 33 = A 33 := cpy_o (by omega)
    have e3 : cpy A (34 + 27 * A 33) 6 j (6 + j) = A (6 + j) := cpy_o (by omega)
    have e4 := hA (6 + j) (by omega)
    rw [← cpy_s] at e1
    rw [r125_56]
    simp (config := { decide := false, maxSteps := 1000000 }) (disch := first | assumption | exact nlg_i _ | exact nlg_r _ | exact nlg_n | omega | decide) only [r125_0, r125_1, r125_4, r125_6, r125_7, r125_9, r125_12, r125_14, r125_15, r125_16, r125_19, r125_22, r125_23, r125_26, r125_27, r125_28, r125_31, r125_32, r125_34, r125_35, r125_36, r125_37, r125_40, r125_43, r125_44, r125_47, r125_49, r125_50, r125_51, r125_52, r125_53, r125_54, r125_55, r125_57, r125_59, r125_62, r125_63, r125_66, r125_68, r125_70, r125_71, r125_74, r125_76, r125_77, r125_78, r125_79, r125_80, r125_81, r125_82, r125_85, r125_87, r125_88, r125_89, r125_90, r125_91, r125_94, r125_98, r125_101, r125_103, r125_104, r125_105, r125_106, r125_107, r125_108, st_g0_0, st_g0_1, st_g0_2, st_g0_3, st_g0_4, st_p0_4, st_g0_5, st_p0_5, st_g0_6, st_p0_6, st_g0_7, st_p0_7, st_v0, st_g1_0, st_g1_1, st_g1_2, st_g1_3, st_p1_3, st_v1, st_g7_0, st_g7_1, st_p7_1, st_g7_2, st_p7_2, st_v7, st_i2, st_is2, st_i3, st_is3, st_i4, st_is4, st_i5, st_is5, st_i6, st_is6, st_l8, st_ls8, st_y2, st_y3, st_y4, st_y8, st_o100_0, st_o100_1, st_o100_2, st_o100_3, st_o100_4, st_o100_5, st_o100_6, st_o100_7, st_q100_7, st_o100_8, st_q100_8, st_w100, st_o110_0, st_o110_1, st_w110, st_o129_0, st_o129_1, st_q129_1, st_o129_2, st_q129_2, st_w129, st_o205_0, st_o205_1, st_q205_1, st_o205_2, st_o205_3, st_q205_3, st_o205_4, st_q205_4, st_o205_5, st_q205_5, st_o205_6, st_q205_6, st_o205_7, st_q205_7, st_o205_8, st_q205_8, st_o205_9, st_q205_9, st_w205, st_o235_0, st_o235_1, st_o235_2, st_o235_3, st_o235_4, st_o235_5, st_o235_6, st_o235_7, st_q235_7, st_o235_8, st_q235_8, st_o235_9, st_o235_10, st_q235_10, st_o235_11, st_q235_11, st_o235_12, st_q235_12, st_o235_13, st_q235_13, st_o235_14, st_q235_14, st_o235_15, st_q235_15, st_o235_16, st_q235_16, st_o235_17, st_q235_17, st_o235_18, st_q235_18, st_o235_19, st_o235_20, st_o235_21, st_q235_21, st_o235_22, st_q235_22, st_o235_23, st_o235_24, st_q235_24, st_w235, st_a204, st_as204, st_a206, st_as206, st_a216, st_as216, st_a236, st_as236, st_a237, st_as237, st_a238, st_as238, st_a239, st_as239, st_a240, st_as240, st_a241, st_as241, st_a242, st_as242, st_a243, st_as243, st_a244, st_as244, st_a245, st_as245, st_a246, st_as246, st_r130, st_r203, nx_in, nx_clamp, nx_i2n, nx_l2n, nx_add, nx_sub, nx_pred, nx_mul, nx_lt, nx_le, nx_eq, nx_shl, nx_shr, nx_and1, nx_andm, nx_m1, nx_or, nx_dr, nx_rem, nx_kC, nx_ift, nx_iff, mw_A, mw_sA, e2, e3, e1, ↓nif_lt_t, ↓nif_lt_f, ↓nif_le_t, ↓nif_le_f, ↓nif_eq_t, ↓nif_eq_f, ↓nif_ne_t, ↓nif_ne_f, Nat.one_mul, List.cons_append, List.nil_append, List.append_nil, Option.toList, if_true, if_false, Bool.false_eq_true, and_true, true_and, and_self]
theorem s125 (hA : ∀ x, x < 574 → A x < 2 ^ 32) (h33 : A 33 ≤ 20) : ev xs L 125 0 [.ref 235, .null] [] (hS (mw S A B C P H ls gv) t) = some (.inl none, hS (mw S (rmA A) B C P H ls gv) t) := by
  unfold rmA
  by_cases h : A 33 = 20
  · rw [if_pos h]
    have e1 := s125a (xs := xs) (L := L) (S := S) (t := t) (B := B) (C := C) (P := P) (H := H) (ls := ls) (gv := gv) hA 513 0 rfl
    rw [cpy_0, Nat.add_zero] at e1
    have e2 : cpy A 34 61 513 33 = 20 := by rw [cpy_o (by omega)]; exact h
    have hA2 : ∀ x, x < 574 → upN (cpy A 34 61 513) 33 19 x < 2 ^ 32 := by
      intro x hx
      unfold upN
      split
      · decide
      · unfold cpy
        split
        · exact hA _ (by omega)
        · exact hA _ hx
    have e3 := s125b (xs := xs) (L := L) (S := S) (t := t) (B := B) (C := C) (P := P) (H := H) (ls := ls) (gv := gv) hA2 (by rw [upN_e]; exact Nat.le_refl _) 27 0 rfl
    rw [cpy_0, upN_e] at e3
    simp (config := { decide := false, maxSteps := 1000000 }) (disch := first | assumption | exact nlg_i _ | exact nlg_r _ | exact nlg_n | omega | decide) only [r125_0, r125_1, r125_4, r125_6, r125_7, r125_9, r125_12, r125_14, r125_16, r125_19, r125_22, r125_23, r125_26, r125_27, r125_28, r125_31, r125_32, r125_34, r125_35, r125_36, r125_37, r125_40, r125_44, r125_47, r125_49, r125_50, r125_51, r125_52, r125_53, r125_54, r125_55, r125_57, r125_59, r125_62, r125_63, r125_66, r125_68, r125_70, r125_71, r125_74, r125_76, r125_77, r125_78, r125_79, r125_80, r125_81, r125_82, r125_85, r125_87, r125_88, r125_89, r125_90, r125_91, r125_94, r125_97, r125_98, r125_101, r125_103, r125_104, r125_105, r125_106, r125_107, r125_108, st_g0_0, st_g0_1, st_g0_2, st_g0_3, st_g0_4, st_p0_4, st_g0_5, st_p0_5, st_g0_6, st_p0_6, st_g0_7, st_p0_7, st_v0, st_g1_0, st_g1_1, st_g1_2, st_g1_3, st_p1_3, st_v1, st_g7_0, st_g7_1, st_p7_1, st_g7_2, st_p7_2, st_v7, st_i2, st_is2, st_i3, st_is3, st_i4, st_is4, st_i5, st_is5, st_i6, st_is6, st_l8, st_ls8, st_y2, st_y3, st_y4, st_y8, st_o100_0, st_o100_1, st_o100_2, st_o100_3, st_o100_4, st_o100_5, st_o100_6, st_o100_7, st_q100_7, st_o100_8, st_q100_8, st_w100, st_o110_0, st_o110_1, st_w110, st_o129_0, st_o129_1, st_q129_1, st_o129_2, st_q129_2, st_w129, st_o205_0, st_o205_1, st_q205_1, st_o205_2, st_o205_3, st_q205_3, st_o205_4, st_q205_4, st_o205_5, st_q205_5, st_o205_6, st_q205_6, st_o205_7, st_q205_7, st_o205_8, st_q205_8, st_o205_9, st_q205_9, st_w205, st_o235_0, st_o235_1, st_o235_2, st_o235_3, st_o235_4, st_o235_5, st_o235_6, st_o235_7, st_q235_7, st_o235_8, st_q235_8, st_o235_9, st_o235_10, st_q235_10, st_o235_11, st_q235_11, st_o235_12, st_q235_12, st_o235_13, st_q235_13, st_o235_14, st_q235_14, st_o235_15, st_q235_15, st_o235_16, st_q235_16, st_o235_17, st_q235_17, st_o235_18, st_q235_18, st_o235_19, st_o235_20, st_o235_21, st_q235_21, st_o235_22, st_q235_22, st_o235_23, st_o235_24, st_q235_24, st_w235, st_a204, st_as204, st_a206, st_as206, st_a216, st_as216, st_a236, st_as236, st_a237, st_as237, st_a238, st_as238, st_a239, st_as239, st_a240, st_as240, st_a241, st_as241, st_a242, st_as242, st_a243, st_as243, st_a244, st_as244, st_a245, st_as245, st_a246, st_as246, st_r130, st_r203, nx_in, nx_clamp, nx_i2n, nx_l2n, nx_add, nx_sub, nx_pred, nx_mul, nx_lt, nx_le, nx_eq, nx_shl, nx_shr, nx_and1, nx_andm, nx_m1, nx_or, nx_dr, nx_rem, nx_kC, nx_ift, nx_iff, mw_A, h, e1, ↓nif_lt_t, ↓nif_lt_f, ↓nif_le_t, ↓nif_le_f, ↓nif_eq_t, ↓nif_eq_f, ↓nif_ne_t, ↓nif_ne_f, Nat.one_mul, List.cons_append, List.nil_append, List.append_nil, Option.toList, if_true, if_false, Bool.false_eq_true, and_true, true_and, and_self]
    rw [r125_43]
    simp (config := { decide := false, maxSteps := 1000000 }) (disch := first | assumption | exact nlg_i _ | exact nlg_r _ | exact nlg_n | omega | decide) only [r125_0, r125_1, r125_4, r125_6, r125_7, r125_9, r125_12, r125_14, r125_16, r125_19, r125_22, r125_23, r125_26, r125_27, r125_28, r125_31, r125_32, r125_34, r125_35, r125_36, r125_37, r125_40, r125_44, r125_47, r125_49, r125_50, r125_51, r125_52, r125_53, r125_54, r125_55, r125_57, r125_59, r125_62, r125_63, r125_66, r125_68, r125_70, r125_71, r125_74, r125_76, r125_77, r125_78, r125_79, r125_80, r125_81, r125_82, r125_85, r125_87, r125_88, r125_89, r125_90, r125_91, r125_94, r125_97, r125_98, r125_101, r125_103, r125_104, r125_105, r125_106, r125_107, r125_108, st_g0_0, st_g0_1, st_g0_2, st_g0_3, st_g0_4, st_p0_4, st_g0_5, st_p0_5, st_g0_6, st_p0_6, st_g0_7, st_p0_7, st_v0, st_g1_0, st_g1_1, st_g1_2, st_g1_3, st_p1_3, st_v1, st_g7_0, st_g7_1, st_p7_1, st_g7_2, st_p7_2, st_v7, st_i2, st_is2, st_i3, st_is3, st_i4, st_is4, st_i5, st_is5, st_i6, st_is6, st_l8, st_ls8, st_y2, st_y3, st_y4, st_y8, st_o100_0, st_o100_1, st_o100_2, st_o100_3, st_o100_4, st_o100_5, st_o100_6, st_o100_7, st_q100_7, st_o100_8, st_q100_8, st_w100, st_o110_0, st_o110_1, st_w110, st_o129_0, st_o129_1, st_q129_1, st_o129_2, st_q129_2, st_w129, st_o205_0, st_o205_1, st_q205_1, st_o205_2, st_o205_3, st_q205_3, st_o205_4, st_q205_4, st_o205_5, st_q205_5, st_o205_6, st_q205_6, st_o205_7, st_q205_7, st_o205_8, st_q205_8, st_o205_9, st_q205_9, st_w205, st_o235_0, st_o235_1, st_o235_2, st_o235_3, st_o235_4, st_o235_5, st_o235_6, st_o235_7, st_q235_7, st_o235_8, st_q235_8, st_o235_9, st_o235_10, st_q235_10, st_o235_11, st_q235_11, st_o235_12, st_q235_12, st_o235_13, st_q235_13, st_o235_14, st_q235_14, st_o235_15, st_q235_15, st_o235_16, st_q235_16, st_o235_17, st_q235_17, st_o235_18, st_q235_18, st_o235_19, st_o235_20, st_o235_21, st_q235_21, st_o235_22, st_q235_22, st_o235_23, st_o235_24, st_q235_24, st_w235, st_a204, st_as204, st_a206, st_as206, st_a216, st_as216, st_a236, st_as236, st_a237, st_as237, st_a238, st_as238, st_a239, st_as239, st_a240, st_as240, st_a241, st_as241, st_a242, st_as242, st_a243, st_as243, st_a244, st_as244, st_a245, st_as245, st_a246, st_as246, st_r130, st_r203, nx_in, nx_clamp, nx_i2n, nx_l2n, nx_add, nx_sub, nx_pred, nx_mul, nx_lt, nx_le, nx_eq, nx_shl, nx_shr, nx_and1, nx_andm, nx_m1, nx_or, nx_dr, nx_rem, nx_kC, nx_ift, nx_iff, mw_A, mw_sA, e2, e3, ↓nif_lt_t, ↓nif_lt_f, ↓nif_le_t, ↓nif_le_f, ↓nif_eq_t, ↓nif_eq_f, ↓nif_ne_t, ↓nif_ne_f, Nat.one_mul, List.cons_append, List.nil_append, List.append_nil, Option.toList, if_true, if_false, Bool.false_eq_true, and_true, true_and, and_self]
  · rw [if_neg h]
    have e3 := s125b (xs := xs) (L := L) (S := S) (t := t) (B := B) (C := C) (P := P) (H := H) (ls := ls) (gv := gv) hA (by omega) 27 0 rfl
    rw [cpy_0] at e3
    simp (config := { decide := false, maxSteps := 1000000 }) (disch := first | assumption | exact nlg_i _ | exact nlg_r _ | exact nlg_n | omega | decide) only [r125_0, r125_1, r125_4, r125_6, r125_7, r125_9, r125_14, r125_16, r125_19, r125_22, r125_23, r125_26, r125_27, r125_28, r125_31, r125_32, r125_34, r125_35, r125_36, r125_37, r125_40, r125_44, r125_47, r125_49, r125_50, r125_51, r125_52, r125_53, r125_54, r125_55, r125_57, r125_59, r125_62, r125_63, r125_66, r125_68, r125_70, r125_71, r125_74, r125_76, r125_77, r125_78, r125_79, r125_80, r125_81, r125_82, r125_85, r125_87, r125_88, r125_89, r125_90, r125_91, r125_94, r125_97, r125_98, r125_101, r125_103, r125_104, r125_105, r125_106, r125_107, r125_108, st_g0_0, st_g0_1, st_g0_2, st_g0_3, st_g0_4, st_p0_4, st_g0_5, st_p0_5, st_g0_6, st_p0_6, st_g0_7, st_p0_7, st_v0, st_g1_0, st_g1_1, st_g1_2, st_g1_3, st_p1_3, st_v1, st_g7_0, st_g7_1, st_p7_1, st_g7_2, st_p7_2, st_v7, st_i2, st_is2, st_i3, st_is3, st_i4, st_is4, st_i5, st_is5, st_i6, st_is6, st_l8, st_ls8, st_y2, st_y3, st_y4, st_y8, st_o100_0, st_o100_1, st_o100_2, st_o100_3, st_o100_4, st_o100_5, st_o100_6, st_o100_7, st_q100_7, st_o100_8, st_q100_8, st_w100, st_o110_0, st_o110_1, st_w110, st_o129_0, st_o129_1, st_q129_1, st_o129_2, st_q129_2, st_w129, st_o205_0, st_o205_1, st_q205_1, st_o205_2, st_o205_3, st_q205_3, st_o205_4, st_q205_4, st_o205_5, st_q205_5, st_o205_6, st_q205_6, st_o205_7, st_q205_7, st_o205_8, st_q205_8, st_o205_9, st_q205_9, st_w205, st_o235_0, st_o235_1, st_o235_2, st_o235_3, st_o235_4, st_o235_5, st_o235_6, st_o235_7, st_q235_7, st_o235_8, st_q235_8, st_o235_9, st_o235_10, st_q235_10, st_o235_11, st_q235_11, st_o235_12, st_q235_12, st_o235_13, st_q235_13, st_o235_14, st_q235_14, st_o235_15, st_q235_15, st_o235_16, st_q235_16, st_o235_17, st_q235_17, st_o235_18, st_q235_18, st_o235_19, st_o235_20, st_o235_21, st_q235_21, st_o235_22, st_q235_22, st_o235_23, st_o235_24, st_q235_24, st_w235, st_a204, st_as204, st_a206, st_as206, st_a216, st_as216, st_a236, st_as236, st_a237, st_as237, st_a238, st_as238, st_a239, st_as239, st_a240, st_as240, st_a241, st_as241, st_a242, st_as242, st_a243, st_as243, st_a244, st_as244, st_a245, st_as245, st_a246, st_as246, st_r130, st_r203, nx_in, nx_clamp, nx_i2n, nx_l2n, nx_add, nx_sub, nx_pred, nx_mul, nx_lt, nx_le, nx_eq, nx_shl, nx_shr, nx_and1, nx_andm, nx_m1, nx_or, nx_dr, nx_rem, nx_kC, nx_ift, nx_iff, mw_A, h, e3, ↓nif_lt_t, ↓nif_lt_f, ↓nif_le_t, ↓nif_le_f, ↓nif_eq_t, ↓nif_eq_f, ↓nif_ne_t, ↓nif_ne_f, Nat.one_mul, List.cons_append, List.nil_append, List.append_nil, Option.toList, if_true, if_false, Bool.false_eq_true, and_true, true_and, and_self]
end XPA
