section XRD
variable {xs : Nat → Int32} {L : Nat} {S : xS} {t : Nat × Nat × Nat} {n s p j lo hi v k : Nat} {T : Nat → Nat} {r q r' : xG} {e f g : Nat → Int32} {A : Nat → Nat} {c b : Int32} {x y : Option xi_R} {o : Sum (Int32 × Nat) (Nat × xG)}
theorem min_300 : (if nI 300 < nI k then nI 300 else nI k) = nI (if 300 < k then 300 else k) ∨ ¬ k < 2 ^ 31 := by
  by_cases h : k < 2 ^ 31
  · refine Or.inl ?_
    by_cases h3 : 300 < k
    · rw [if_pos h3, if_pos (nI_lt h3 h)]
    · rw [if_neg h3, if_neg (nI_nlt (by omega) (by decide))]
  · exact Or.inr h
/-- the class reads a game -/
theorem s18 (hb : bty S T n) (hr : jk (S.1 207)) : oC S t T n (ev xs L 18 0 [.ref 205, .int (nI n), .null] [] (hS S t)) (parse T n (S.1 207)) := by
  have hn := hb.1
  have hcg := rB_cg hr
  have h0 : nT T n 0 ≤ n := (nT_le (Nat.zero_le _)).2
  have e19 := s19 (xs := xs) (L := L) (S := S) (t := t) (r := S.1 207) (e := upI (upI (S.2.2.2.1 205) 5 (nI n)) 8 (nI 0)) hb (p := 0) (Nat.zero_le _) rfl rfl
  have e4 := s4 (xs := xs) (L := L) (S := S) (t := t) (r := S.1 207) (e := tk T n (upI (upI (S.2.2.2.1 205) 5 (nI n)) 8 (nI 0)) (nT T n 0))
  have h21 := s21 (xs := xs) (L := L) (t := t) (e := upI (upI (S.2.2.2.1 205) 5 (nI n)) 8 (nI 0)) hb h0 rfl hcg.1
  have hg := fun s' r' hq => readsC_gd (T := T) (s' := s') (r' := r') h0 hcg hq
  have hm : (if nI 300 < nI n then nI 300 else nI n) = nI n := if_neg (nI_nlt hn (by decide))
  have hS1 : hS S t = hS (cs S (S.2.2.2.1 205) (S.1 207)) t := by rw [cs_self]
  rw [hS1]
  unfold parse
  obtain ⟨o, ho⟩ : ∃ o, readsC T n (nT T n 0) (rB (S.1 207)) = o := ⟨_, rfl⟩
  have hM := fun h11 => s142 (xs := fun _ => 0) (L := 0) (S := S) (t := (0, 0, 0)) (f := fun k => if k = 11 then nI n else nI 0) hb h0 h11 rfl (aA_cre (A := fun _ => 0) hcg)
  have hM := hM rfl
  rw [ho] at h21 hg hM ⊢
  cases o with
  | inl c =>
    obtain ⟨c, p⟩ := c
    obtain ⟨e', r', q1, q2, q3, q4⟩ := h21
    refine ⟨e', r', q1, q2, q3, ?_⟩
    simp (config := { decide := false, maxSteps := 1000000 }) (disch := first | assumption | exact nlg_i _ | exact nlg_r _ | exact nlg_n | omega | decide) only [r18_0, r18_1, r18_2, r18_5, r18_8, r18_11, r18_12, r18_13, r18_16, r18_17, r18_20, r18_21, r18_24, r18_27, r18_28, r18_31, r18_34, r18_35, st_g0_0, st_g0_1, st_g0_2, st_g0_3, st_g0_4, st_p0_4, st_g0_5, st_p0_5, st_g0_6, st_p0_6, st_g0_7, st_p0_7, st_v0, st_g1_0, st_g1_1, st_g1_2, st_g1_3, st_p1_3, st_v1, st_g7_0, st_g7_1, st_p7_1, st_g7_2, st_p7_2, st_v7, st_i2, st_is2, st_i3, st_is3, st_i4, st_is4, st_i5, st_is5, st_i6, st_is6, st_l8, st_ls8, st_y2, st_y3, st_y4, st_y8, st_o100_0, st_o100_1, st_o100_2, st_o100_3, st_o100_4, st_o100_5, st_o100_6, st_o100_7, st_q100_7, st_o100_8, st_q100_8, st_w100, st_o110_0, st_o110_1, st_w110, st_o129_0, st_o129_1, st_q129_1, st_o129_2, st_q129_2, st_w129, st_o205_0, st_o205_1, st_q205_1, st_o205_2, st_o205_3, st_q205_3, st_o205_4, st_q205_4, st_o205_5, st_q205_5, st_o205_6, st_q205_6, st_o205_7, st_q205_7, st_o205_8, st_q205_8, st_o205_9, st_q205_9, st_w205, st_o235_0, st_o235_1, st_o235_2, st_o235_3, st_o235_4, st_o235_5, st_o235_6, st_o235_7, st_q235_7, st_o235_8, st_q235_8, st_o235_9, st_o235_10, st_q235_10, st_o235_11, st_q235_11, st_o235_12, st_q235_12, st_o235_13, st_q235_13, st_o235_14, st_q235_14, st_o235_15, st_q235_15, st_o235_16, st_q235_16, st_o235_17, st_q235_17, st_o235_18, st_q235_18, st_o235_19, st_o235_20, st_o235_21, st_q235_21, st_o235_22, st_q235_22, st_o235_23, st_o235_24, st_q235_24, st_w235, st_a204, st_as204, st_a206, st_as206, st_a216, st_as216, st_a236, st_as236, st_a237, st_as237, st_a238, st_as238, st_a239, st_as239, st_a240, st_as240, st_a241, st_as241, st_a242, st_as242, st_a243, st_as243, st_a244, st_as244, st_a245, st_as245, st_a246, st_as246, st_r130, st_r203, nx_in, nx_clamp, nx_i2n, nx_l2n, nx_add, nx_sub, nx_pred, nx_mul, nx_lt, nx_le, nx_eq, nx_shl, nx_shr, nx_and1, nx_andm, nx_m1, nx_or, nx_dr, nx_rem, nx_kC, nx_ift, nx_iff, cs_w, hm, e19, e4, q4, nb0, ↓nif_lt_t, ↓nif_lt_f, ↓nif_le_t, ↓nif_le_f, ↓nif_eq_t, ↓nif_eq_f, ↓nif_ne_t, ↓nif_ne_f, Nat.one_mul, List.cons_append, List.nil_append, List.append_nil, Option.toList, if_true, if_false, Bool.false_eq_true, and_true, true_and, and_self]
  | inr c =>
    obtain ⟨s1, r1⟩ := c
    obtain ⟨e', q1, q2⟩ := h21
    obtain ⟨f', A', _, _, hA', _⟩ := hM
    have hgd := hg _ _ rfl
    refine oC_eq ?_ (s18o (xs := xs) (L := L) (l1 := .int (nI n)) hb rfl (n + 1) 0 s1 r1 e' A' (by omega) (Nat.zero_le _) hgd.2 q1 ⟨hgd.1, hA'⟩)
    simp (config := { decide := false, maxSteps := 1000000 }) (disch := first | assumption | exact nlg_i _ | exact nlg_r _ | exact nlg_n | omega | decide) only [r18_0, r18_1, r18_2, r18_5, r18_8, r18_11, r18_12, r18_13, r18_16, r18_17, r18_20, r18_21, r18_24, r18_27, r18_28, r18_31, r18_35, r18_36, r18_37, st_g0_0, st_g0_1, st_g0_2, st_g0_3, st_g0_4, st_p0_4, st_g0_5, st_p0_5, st_g0_6, st_p0_6, st_g0_7, st_p0_7, st_v0, st_g1_0, st_g1_1, st_g1_2, st_g1_3, st_p1_3, st_v1, st_g7_0, st_g7_1, st_p7_1, st_g7_2, st_p7_2, st_v7, st_i2, st_is2, st_i3, st_is3, st_i4, st_is4, st_i5, st_is5, st_i6, st_is6, st_l8, st_ls8, st_y2, st_y3, st_y4, st_y8, st_o100_0, st_o100_1, st_o100_2, st_o100_3, st_o100_4, st_o100_5, st_o100_6, st_o100_7, st_q100_7, st_o100_8, st_q100_8, st_w100, st_o110_0, st_o110_1, st_w110, st_o129_0, st_o129_1, st_q129_1, st_o129_2, st_q129_2, st_w129, st_o205_0, st_o205_1, st_q205_1, st_o205_2, st_o205_3, st_q205_3, st_o205_4, st_q205_4, st_o205_5, st_q205_5, st_o205_6, st_q205_6, st_o205_7, st_q205_7, st_o205_8, st_q205_8, st_o205_9, st_q205_9, st_w205, st_o235_0, st_o235_1, st_o235_2, st_o235_3, st_o235_4, st_o235_5, st_o235_6, st_o235_7, st_q235_7, st_o235_8, st_q235_8, st_o235_9, st_o235_10, st_q235_10, st_o235_11, st_q235_11, st_o235_12, st_q235_12, st_o235_13, st_q235_13, st_o235_14, st_q235_14, st_o235_15, st_q235_15, st_o235_16, st_q235_16, st_o235_17, st_q235_17, st_o235_18, st_q235_18, st_o235_19, st_o235_20, st_o235_21, st_q235_21, st_o235_22, st_q235_22, st_o235_23, st_o235_24, st_q235_24, st_w235, st_a204, st_as204, st_a206, st_as206, st_a216, st_as216, st_a236, st_as236, st_a237, st_as237, st_a238, st_as238, st_a239, st_as239, st_a240, st_as240, st_a241, st_as241, st_a242, st_as242, st_a243, st_as243, st_a244, st_as244, st_a245, st_as245, st_a246, st_as246, st_r130, st_r203, nx_in, nx_clamp, nx_i2n, nx_l2n, nx_add, nx_sub, nx_pred, nx_mul, nx_lt, nx_le, nx_eq, nx_shl, nx_shr, nx_and1, nx_andm, nx_m1, nx_or, nx_dr, nx_rem, nx_kC, nx_ift, nx_iff, cs_w, hm, e19, e4, q2, ↓nif_lt_t, ↓nif_lt_f, ↓nif_le_t, ↓nif_le_f, ↓nif_eq_t, ↓nif_eq_f, ↓nif_ne_t, ↓nif_ne_f, Nat.one_mul, List.cons_append, List.nil_append, List.append_nil, Option.toList, if_true, if_false, Bool.false_eq_true, and_true, true_and, and_self]
/-- the model reads a game -/
theorem s137r {r : xG} (hb : bty S T n) (hr : jk r) (h11 : f 11 = nI n) (h13 : f 13 = nI 0) (h16 : f 16 = nI 0) : oL S T n (fun l X => ev xs L 137 109 [.ref 235, .int (nI n), l] [] (hS X t)) (ev xs L 137 50 [.ref 235, .int (nI n), .null] [] (hS (ms S f A) t)) (parse T n r) := by
  have hn := hb.1
  have hcg := rB_cg hr
  have h0 : nT T n 0 ≤ n := (nT_le (Nat.zero_le _)).2
  have e122 := s122 (xs := xs) (L := L) (S := S) (f := f) (t := t) (A := A)
  have e138 := s138 (xs := xs) (L := L) (A := aA A) (t := t) (f := f) hb (Nat.zero_le _) h11 h13
  have h142 := s142 (xs := xs) (L := L) (S := S) (t := t) (f := f) hb h0 h11 h16 (aA_cre (A := A) hcg)
  have hg := fun s' r' hq => readsC_gd (T := T) (s' := s') (r' := r') h0 hcg hq
  unfold parse
  obtain ⟨o, ho⟩ : ∃ o, readsC T n (nT T n 0) (rB r) = o := ⟨_, rfl⟩
  rw [ho] at h142 hg ⊢
  cases o with
  | inl c =>
    obtain ⟨c, p⟩ := c
    obtain ⟨f', A', q1, q2, q3, q4⟩ := h142
    refine ⟨f', A', .int (nI 0), q1, q2, q3, ?_⟩
    simp (config := { decide := false, maxSteps := 1000000 }) (disch := first | assumption | exact nlg_i _ | exact nlg_r _ | exact nlg_n | omega | decide) only [r137_50, r137_51, r137_54, r137_55, r137_58, r137_59, r137_62, r137_63, r137_66, r137_69, r137_70, r137_73, r137_74, r137_75, r137_76, r137_79, r137_80, r137_83, r137_84, r137_87, r137_88, r137_91, st_g0_0, st_g0_1, st_g0_2, st_g0_3, st_g0_4, st_p0_4, st_g0_5, st_p0_5, st_g0_6, st_p0_6, st_g0_7, st_p0_7, st_v0, st_g1_0, st_g1_1, st_g1_2, st_g1_3, st_p1_3, st_v1, st_g7_0, st_g7_1, st_p7_1, st_g7_2, st_p7_2, st_v7, st_i2, st_is2, st_i3, st_is3, st_i4, st_is4, st_i5, st_is5, st_i6, st_is6, st_l8, st_ls8, st_y2, st_y3, st_y4, st_y8, st_o100_0, st_o100_1, st_o100_2, st_o100_3, st_o100_4, st_o100_5, st_o100_6, st_o100_7, st_q100_7, st_o100_8, st_q100_8, st_w100, st_o110_0, st_o110_1, st_w110, st_o129_0, st_o129_1, st_q129_1, st_o129_2, st_q129_2, st_w129, st_o205_0, st_o205_1, st_q205_1, st_o205_2, st_o205_3, st_q205_3, st_o205_4, st_q205_4, st_o205_5, st_q205_5, st_o205_6, st_q205_6, st_o205_7, st_q205_7, st_o205_8, st_q205_8, st_o205_9, st_q205_9, st_w205, st_o235_0, st_o235_1, st_o235_2, st_o235_3, st_o235_4, st_o235_5, st_o235_6, st_o235_7, st_q235_7, st_o235_8, st_q235_8, st_o235_9, st_o235_10, st_q235_10, st_o235_11, st_q235_11, st_o235_12, st_q235_12, st_o235_13, st_q235_13, st_o235_14, st_q235_14, st_o235_15, st_q235_15, st_o235_16, st_q235_16, st_o235_17, st_q235_17, st_o235_18, st_q235_18, st_o235_19, st_o235_20, st_o235_21, st_q235_21, st_o235_22, st_q235_22, st_o235_23, st_o235_24, st_q235_24, st_w235, st_a204, st_as204, st_a206, st_as206, st_a216, st_as216, st_a236, st_as236, st_a237, st_as237, st_a238, st_as238, st_a239, st_as239, st_a240, st_as240, st_a241, st_as241, st_a242, st_as242, st_a243, st_as243, st_a244, st_as244, st_a245, st_as245, st_a246, st_as246, st_r130, st_r203, nx_in, nx_clamp, nx_i2n, nx_l2n, nx_add, nx_sub, nx_pred, nx_mul, nx_lt, nx_le, nx_eq, nx_shl, nx_shr, nx_and1, nx_andm, nx_m1, nx_or, nx_dr, nx_rem, nx_kC, nx_ift, nx_iff, ms_r, e122, e138, q4, q2, not_false_eq_true, ↓nif_lt_t, ↓nif_lt_f, ↓nif_le_t, ↓nif_le_f, ↓nif_eq_t, ↓nif_eq_f, ↓nif_ne_t, ↓nif_ne_f, Nat.one_mul, List.cons_append, List.nil_append, List.append_nil, Option.toList, if_true, if_false, Bool.false_eq_true, and_true, true_and, and_self]
  | inr c =>
    obtain ⟨s1, r1⟩ := c
    obtain ⟨f', A', q1, q2, q3, q4⟩ := h142
    have hgd := hg _ _ rfl
    have g16 : mt T n f' s1 16 = nI 0 := q2
    refine oL_eq ?_ (s137o (xs := xs) (L := L) (l1 := .int (nI n)) hb rfl (n + 1) s1 r1 f' A' (by omega) hgd.2 q1 q2 ⟨hgd.1, q3⟩)
    simp (config := { decide := false, maxSteps := 1000000 }) (disch := first | assumption | exact nlg_i _ | exact nlg_r _ | exact nlg_n | omega | decide) only [r137_50, r137_51, r137_54, r137_55, r137_58, r137_59, r137_62, r137_63, r137_66, r137_69, r137_70, r137_73, r137_74, st_g0_0, st_g0_1, st_g0_2, st_g0_3, st_g0_4, st_p0_4, st_g0_5, st_p0_5, st_g0_6, st_p0_6, st_g0_7, st_p0_7, st_v0, st_g1_0, st_g1_1, st_g1_2, st_g1_3, st_p1_3, st_v1, st_g7_0, st_g7_1, st_p7_1, st_g7_2, st_p7_2, st_v7, st_i2, st_is2, st_i3, st_is3, st_i4, st_is4, st_i5, st_is5, st_i6, st_is6, st_l8, st_ls8, st_y2, st_y3, st_y4, st_y8, st_o100_0, st_o100_1, st_o100_2, st_o100_3, st_o100_4, st_o100_5, st_o100_6, st_o100_7, st_q100_7, st_o100_8, st_q100_8, st_w100, st_o110_0, st_o110_1, st_w110, st_o129_0, st_o129_1, st_q129_1, st_o129_2, st_q129_2, st_w129, st_o205_0, st_o205_1, st_q205_1, st_o205_2, st_o205_3, st_q205_3, st_o205_4, st_q205_4, st_o205_5, st_q205_5, st_o205_6, st_q205_6, st_o205_7, st_q205_7, st_o205_8, st_q205_8, st_o205_9, st_q205_9, st_w205, st_o235_0, st_o235_1, st_o235_2, st_o235_3, st_o235_4, st_o235_5, st_o235_6, st_o235_7, st_q235_7, st_o235_8, st_q235_8, st_o235_9, st_o235_10, st_q235_10, st_o235_11, st_q235_11, st_o235_12, st_q235_12, st_o235_13, st_q235_13, st_o235_14, st_q235_14, st_o235_15, st_q235_15, st_o235_16, st_q235_16, st_o235_17, st_q235_17, st_o235_18, st_q235_18, st_o235_19, st_o235_20, st_o235_21, st_q235_21, st_o235_22, st_q235_22, st_o235_23, st_o235_24, st_q235_24, st_w235, st_a204, st_as204, st_a206, st_as206, st_a216, st_as216, st_a236, st_as236, st_a237, st_as237, st_a238, st_as238, st_a239, st_as239, st_a240, st_as240, st_a241, st_as241, st_a242, st_as242, st_a243, st_as243, st_a244, st_as244, st_a245, st_as245, st_a246, st_as246, st_r130, st_r203, nx_in, nx_clamp, nx_i2n, nx_l2n, nx_add, nx_sub, nx_pred, nx_mul, nx_lt, nx_le, nx_eq, nx_shl, nx_shr, nx_and1, nx_andm, nx_m1, nx_or, nx_dr, nx_rem, nx_kC, nx_ift, nx_iff, ms_r, e122, e138, q4, g16, ↓nif_lt_t, ↓nif_lt_f, ↓nif_le_t, ↓nif_le_f, ↓nif_eq_t, ↓nif_eq_f, ↓nif_ne_t, ↓nif_ne_f, Nat.one_mul, List.cons_append, List.nil_append, List.append_nil, Option.toList, if_true, if_false, Bool.false_eq_true, and_true, true_and, and_self]
end XRD
