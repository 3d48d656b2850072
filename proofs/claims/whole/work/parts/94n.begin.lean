section XBG
variable {xs : Nat → Int32} {L : Nat} {S : xS} {t : Nat × Nat × Nat} {n s p j lo hi v : Nat} {T : Nat → Nat} {r q r' : xG} {e f g : Nat → Int32} {A : Nat → Nat} {c b : Int32} {x y : Option xi_R} {o : Sum (Int32 × Nat) (Nat × xG)}
/-- the ring laid out as far as i -/
def ly (i : Nat) (r : xG) : xG := fun a c => if a = 2 ∧ c < i then 3 else if (a = 3 ∨ a = 4) ∧ c < i then 0 else r a c
theorem ly_0 : ly 0 r = r := by
  funext a c
  show (if a = 2 ∧ c < 0 then 3 else if (a = 3 ∨ a = 4) ∧ c < 0 then 0 else r a c) = r a c
  rw [if_neg (fun z => by omega), if_neg (fun z => by omega)]
theorem ly_s {i : Nat} : up2 (up2 (up2 (ly i r) 2 i 3) 3 i 0) 4 i 0 = ly (i + 1) r := by
  funext a c
  show (if a = 4 ∧ c = i then 0 else if a = 3 ∧ c = i then 0 else if a = 2 ∧ c = i then 3 else if a = 2 ∧ c < i then 3 else if (a = 3 ∨ a = 4) ∧ c < i then 0 else r a c) = (if a = 2 ∧ c < i + 1 then 3 else if (a = 3 ∨ a = 4) ∧ c < i + 1 then 0 else r a c)
  by_cases h2 : a = 2
  · subst h2
    by_cases hc : c = i
    · rw [if_neg (by omega), if_neg (by omega), if_pos ⟨rfl, hc⟩, if_pos ⟨rfl, by omega⟩]
    · rw [if_neg (by omega), if_neg (by omega), if_neg (by omega)]
      by_cases hl : c < i
      · rw [if_pos ⟨rfl, hl⟩, if_pos ⟨rfl, by omega⟩]
      · rw [if_neg (by omega), if_neg (by omega), if_neg (by omega), if_neg (by omega)]
  · rw [if_neg (c := a = 2 ∧ c = i) (by omega), if_neg (c := a = 2 ∧ c < i) (by omega), if_neg (c := a = 2 ∧ c < i + 1) (by omega)]
    by_cases h34 : (a = 3 ∨ a = 4)
    · by_cases hl : c < i + 1
      · rw [if_pos (c := (a = 3 ∨ a = 4) ∧ c < i + 1) ⟨h34, hl⟩]
        by_cases hc : c = i
        · rcases h34 with z | z
          · rw [if_neg (by omega), if_pos ⟨z, hc⟩]
          · rw [if_pos ⟨z, hc⟩]
        · rw [if_neg (by omega), if_neg (by omega), if_pos ⟨h34, by omega⟩]
      · rw [if_neg (by omega), if_neg (by omega), if_neg (by omega), if_neg (by omega)]
    · rw [if_neg (by omega), if_neg (by omega), if_neg (by omega), if_neg (by omega)]
theorem s43L : ∀ m i, m + i = 12 → ev xs L 43 7 [.ref 208, .int (nI 5), .int (nI i)] [] (hS (cs S e (ly i r)) t) = some (.inl none, hS (cs S e (ly 12 r)) t) := by
  intro m
  induction m with
  | zero =>
    intro i h
    have hi : i = 12 := by omega
    subst hi
    simp (config := { decide := false, maxSteps := 1000000 }) (disch := first | assumption | exact nlg_i _ | exact nlg_r _ | exact nlg_n | omega | decide) only [r43_7, r43_8, r43_10, r43_13, r43_14, r43_17, r43_18, r43_19, r43_20, r43_21, r43_24, r43_25, r43_26, r43_27, r43_28, r43_31, r43_32, r43_33, r43_34, r43_37, r43_40, st_g0_0, st_g0_1, st_g0_2, st_g0_3, st_g0_4, st_p0_4, st_g0_5, st_p0_5, st_g0_6, st_p0_6, st_g0_7, st_p0_7, st_v0, st_g1_0, st_g1_1, st_g1_2, st_g1_3, st_p1_3, st_v1, st_g7_0, st_g7_1, st_p7_1, st_g7_2, st_p7_2, st_v7, st_i2, st_is2, st_i3, st_is3, st_i4, st_is4, st_i5, st_is5, st_i6, st_is6, st_l8, st_ls8, st_y2, st_y3, st_y4, st_y8, st_o100_0, st_o100_1, st_o100_2, st_o100_3, st_o100_4, st_o100_5, st_o100_6, st_o100_7, st_q100_7, st_o100_8, st_q100_8, st_w100, st_o110_0, st_o110_1, st_w110, st_o129_0, st_o129_1, st_q129_1, st_o129_2, st_q129_2, st_w129, st_o205_0, st_o205_1, st_q205_1, st_o205_2, st_o205_3, st_q205_3, st_o205_4, st_q205_4, st_o205_5, st_q205_5, st_o205_6, st_q205_6, st_o205_7, st_q205_7, st_o205_8, st_q205_8, st_o205_9, st_q205_9, st_w205, st_o235_0, st_o235_1, st_o235_2, st_o235_3, st_o235_4, st_o235_5, st_o235_6, st_o235_7, st_q235_7, st_o235_8, st_q235_8, st_o235_9, st_o235_10, st_q235_10, st_o235_11, st_q235_11, st_o235_12, st_q235_12, st_o235_13, st_q235_13, st_o235_14, st_q235_14, st_o235_15, st_q235_15, st_o235_16, st_q235_16, st_o235_17, st_q235_17, st_o235_18, st_q235_18, st_o235_19, st_o235_20, st_o235_21, st_q235_21, st_o235_22, st_q235_22, st_o235_23, st_o235_24, st_q235_24, st_w235, st_a204, st_as204, st_a206, st_as206, st_a216, st_as216, st_a236, st_as236, st_a237, st_as237, st_a238, st_as238, st_a239, st_as239, st_a240, st_as240, st_a241, st_as241, st_a242, st_as242, st_a243, st_as243, st_a244, st_as244, st_a245, st_as245, st_a246, st_as246, st_r130, st_r203, nx_in, nx_clamp, nx_i2n, nx_l2n, nx_add, nx_sub, nx_pred, nx_mul, nx_lt, nx_le, nx_eq, nx_shl, nx_shr, nx_and1, nx_andm, nx_m1, nx_or, nx_dr, nx_rem, nx_kC, nx_ift, nx_iff, ↓nif_lt_t, ↓nif_lt_f, ↓nif_le_t, ↓nif_le_f, ↓nif_eq_t, ↓nif_eq_f, ↓nif_ne_t, ↓nif_ne_f, Nat.one_mul, List.cons_append, List.nil_append, List.append_nil, Option.toList, if_true, if_false, Bool.false_eq_true, and_true, true_and, and_self]
  | succ m ih =>
    intro i h
    have e1 := ih (i + 1) (by omega)
    rw [r43_7]
    simp (config := { decide := false, maxSteps := 1000000 }) (disch := first | assumption | exact nlg_i _ | exact nlg_r _ | exact nlg_n | omega | decide) only [r43_8, r43_10, r43_13, r43_14, r43_17, r43_18, r43_19, r43_20, r43_21, r43_24, r43_25, r43_26, r43_27, r43_28, r43_31, r43_32, r43_33, r43_34, r43_37, r43_40, st_g0_0, st_g0_1, st_g0_2, st_g0_3, st_g0_4, st_p0_4, st_g0_5, st_p0_5, st_g0_6, st_p0_6, st_g0_7, st_p0_7, st_v0, st_g1_0, st_g1_1, st_g1_2, st_g1_3, st_p1_3, st_v1, st_g7_0, st_g7_1, st_p7_1, st_g7_2, st_p7_2, st_v7, st_i2, st_is2, st_i3, st_is3, st_i4, st_is4, st_i5, st_is5, st_i6, st_is6, st_l8, st_ls8, st_y2, st_y3, st_y4, st_y8, st_o100_0, st_o100_1, st_o100_2, st_o100_3, st_o100_4, st_o100_5, st_o100_6, st_o100_7, st_q100_7, st_o100_8, st_q100_8, st_w100, st_o110_0, st_o110_1, st_w110, st_o129_0, st_o129_1, st_q129_1, st_o129_2, st_q129_2, st_w129, st_o205_0, st_o205_1, st_q205_1, st_o205_2, st_o205_3, st_q205_3, st_o205_4, st_q205_4, st_o205_5, st_q205_5, st_o205_6, st_q205_6, st_o205_7, st_q205_7, st_o205_8, st_q205_8, st_o205_9, st_q205_9, st_w205, st_o235_0, st_o235_1, st_o235_2, st_o235_3, st_o235_4, st_o235_5, st_o235_6, st_o235_7, st_q235_7, st_o235_8, st_q235_8, st_o235_9, st_o235_10, st_q235_10, st_o235_11, st_q235_11, st_o235_12, st_q235_12, st_o235_13, st_q235_13, st_o235_14, st_q235_14, st_o235_15, st_q235_15, st_o235_16, st_q235_16, st_o235_17, st_q235_17, st_o235_18, st_q235_18, st_o235_19, st_o235_20, st_o235_21, st_q235_21, st_o235_22, st_q235_22, st_o235_23, st_o235_24, st_q235_24, st_w235, st_a204, st_as204, st_a206, st_as206, st_a216, st_as216, st_a236, st_as236, st_a237, st_as237, st_a238, st_as238, st_a239, st_as239, st_a240, st_as240, st_a241, st_as241, st_a242, st_as242, st_a243, st_as243, st_a244, st_as244, st_a245, st_as245, st_a246, st_as246, st_r130, st_r203, nx_in, nx_clamp, nx_i2n, nx_l2n, nx_add, nx_sub, nx_pred, nx_mul, nx_lt, nx_le, nx_eq, nx_shl, nx_shr, nx_and1, nx_andm, nx_m1, nx_or, nx_dr, nx_rem, nx_kC, nx_ift, nx_iff, cs_sF, ly_s, e1, ↓nif_lt_t, ↓nif_lt_f, ↓nif_le_t, ↓nif_le_f, ↓nif_eq_t, ↓nif_eq_f, ↓nif_ne_t, ↓nif_ne_f, Nat.one_mul, List.cons_append, List.nil_append, List.append_nil, Option.toList, if_true, if_false, Bool.false_eq_true, and_true, true_and, and_self]
theorem s43 : ev xs L 43 0 [.ref 208, .int (nI 5), .null] [] (hS (cs S e r) t) = some (.inl none, hS (cs S e (ly 12 (up2 r 1 3 5))) t) := by
  have e1 := s43L (xs := xs) (L := L) (S := S) (t := t) (e := e) (r := up2 r 1 3 5) 12 0 rfl
  rw [ly_0] at e1
  simp (config := { decide := false, maxSteps := 1000000 }) (disch := first | assumption | exact nlg_i _ | exact nlg_r _ | exact nlg_n | omega | decide) only [r43_0, r43_1, r43_2, r43_5, r43_6, st_g0_0, st_g0_1, st_g0_2, st_g0_3, st_g0_4, st_p0_4, st_g0_5, st_p0_5, st_g0_6, st_p0_6, st_g0_7, st_p0_7, st_v0, st_g1_0, st_g1_1, st_g1_2, st_g1_3, st_p1_3, st_v1, st_g7_0, st_g7_1, st_p7_1, st_g7_2, st_p7_2, st_v7, st_i2, st_is2, st_i3, st_is3, st_i4, st_is4, st_i5, st_is5, st_i6, st_is6, st_l8, st_ls8, st_y2, st_y3, st_y4, st_y8, st_o100_0, st_o100_1, st_o100_2, st_o100_3, st_o100_4, st_o100_5, st_o100_6, st_o100_7, st_q100_7, st_o100_8, st_q100_8, st_w100, st_o110_0, st_o110_1, st_w110, st_o129_0, st_o129_1, st_q129_1, st_o129_2, st_q129_2, st_w129, st_o205_0, st_o205_1, st_q205_1, st_o205_2, st_o205_3, st_q205_3, st_o205_4, st_q205_4, st_o205_5, st_q205_5, st_o205_6, st_q205_6, st_o205_7, st_q205_7, st_o205_8, st_q205_8, st_o205_9, st_q205_9, st_w205, st_o235_0, st_o235_1, st_o235_2, st_o235_3, st_o235_4, st_o235_5, st_o235_6, st_o235_7, st_q235_7, st_o235_8, st_q235_8, st_o235_9, st_o235_10, st_q235_10, st_o235_11, st_q235_11, st_o235_12, st_q235_12, st_o235_13, st_q235_13, st_o235_14, st_q235_14, st_o235_15, st_q235_15, st_o235_16, st_q235_16, st_o235_17, st_q235_17, st_o235_18, st_q235_18, st_o235_19, st_o235_20, st_o235_21, st_q235_21, st_o235_22, st_q235_22, st_o235_23, st_o235_24, st_q235_24, st_w235, st_a204, st_as204, st_a206, st_as206, st_a216, st_as216, st_a236, st_as236, st_a237, st_as237, st_a238, st_as238, st_a239, st_as239, st_a240, st_as240, st_a241, st_as241, st_a242, st_as242, st_a243, st_as243, st_a244, st_as244, st_a245, st_as245, st_a246, st_as246, st_r130, st_r203, nx_in, nx_clamp, nx_i2n, nx_l2n, nx_add, nx_sub, nx_pred, nx_mul, nx_lt, nx_le, nx_eq, nx_shl, nx_shr, nx_and1, nx_andm, nx_m1, nx_or, nx_dr, nx_rem, nx_kC, nx_ift, nx_iff, cs_sF, e1, ↓nif_lt_t, ↓nif_lt_f, ↓nif_le_t, ↓nif_le_f, ↓nif_eq_t, ↓nif_eq_f, ↓nif_ne_t, ↓nif_ne_f, Nat.one_mul, List.cons_append, List.nil_append, List.append_nil, Option.toList, if_true, if_false, Bool.false_eq_true, and_true, true_and, and_self]
def rB (r : xG) : xG := up2 (up2 (up2 (up2 (up2 (up2 (up2 (up2 (ly 12 (up2 r 1 3 5)) 5 1 0) 6 1 0) 5 2 0) 6 2 0) 0 4 1) 0 5 0) 0 6 0) 0 7 5
theorem s4 : ev xs L 4 0 [.ref 207, .null] [] (hS (cs S e r) t) = some (.inl none, hS (cs S e (rB r)) t) := by
  have e43 := s43 (xs := xs) (L := L) (S := S) (t := t) (e := e) (r := r)
  simp (config := { decide := false, maxSteps := 1000000 }) (disch := first | assumption | exact nlg_i _ | exact nlg_r _ | exact nlg_n | omega | decide) only [r4_0, r4_1, r4_4, r4_5, r4_8, r4_9, r4_10, r4_11, r4_12, r4_15, r4_16, r4_19, r4_20, r4_21, r4_22, r4_23, r4_26, r4_27, r4_28, r4_29, r4_32, r4_35, r4_36, r4_37, r4_40, r4_41, r4_42, r4_45, r4_46, r4_47, r4_50, r4_51, r4_52, r4_55, st_g0_0, st_g0_1, st_g0_2, st_g0_3, st_g0_4, st_p0_4, st_g0_5, st_p0_5, st_g0_6, st_p0_6, st_g0_7, st_p0_7, st_v0, st_g1_0, st_g1_1, st_g1_2, st_g1_3, st_p1_3, st_v1, st_g7_0, st_g7_1, st_p7_1, st_g7_2, st_p7_2, st_v7, st_i2, st_is2, st_i3, st_is3, st_i4, st_is4, st_i5, st_is5, st_i6, st_is6, st_l8, st_ls8, st_y2, st_y3, st_y4, st_y8, st_o100_0, st_o100_1, st_o100_2, st_o100_3, st_o100_4, st_o100_5, st_o100_6, st_o100_7, st_q100_7, st_o100_8, st_q100_8, st_w100, st_o110_0, st_o110_1, st_w110, st_o129_0, st_o129_1, st_q129_1, st_o129_2, st_q129_2, st_w129, st_o205_0, st_o205_1, st_q205_1, st_o205_2, st_o205_3, st_q205_3, st_o205_4, st_q205_4, st_o205_5, st_q205_5, st_o205_6, st_q205_6, st_o205_7, st_q205_7, st_o205_8, st_q205_8, st_o205_9, st_q205_9, st_w205, st_o235_0, st_o235_1, st_o235_2, st_o235_3, st_o235_4, st_o235_5, st_o235_6, st_o235_7, st_q235_7, st_o235_8, st_q235_8, st_o235_9, st_o235_10, st_q235_10, st_o235_11, st_q235_11, st_o235_12, st_q235_12, st_o235_13, st_q235_13, st_o235_14, st_q235_14, st_o235_15, st_q235_15, st_o235_16, st_q235_16, st_o235_17, st_q235_17, st_o235_18, st_q235_18, st_o235_19, st_o235_20, st_o235_21, st_q235_21, st_o235_22, st_q235_22, st_o235_23, st_o235_24, st_q235_24, st_w235, st_a204, st_as204, st_a206, st_as206, st_a216, st_as216, st_a236, st_as236, st_a237, st_as237, st_a238, st_as238, st_a239, st_as239, st_a240, st_as240, st_a241, st_as241, st_a242, st_as242, st_a243, st_as243, st_a244, st_as244, st_a245, st_as245, st_a246, st_as246, st_r130, st_r203, nx_in, nx_clamp, nx_i2n, nx_l2n, nx_add, nx_sub, nx_pred, nx_mul, nx_lt, nx_le, nx_eq, nx_shl, nx_shr, nx_and1, nx_andm, nx_m1, nx_or, nx_dr, nx_rem, nx_kC, nx_ift, nx_iff, cs_sF, e43, ↓nif_lt_t, ↓nif_lt_f, ↓nif_le_t, ↓nif_le_f, ↓nif_eq_t, ↓nif_eq_f, ↓nif_ne_t, ↓nif_ne_f, Nat.one_mul, List.cons_append, List.nil_append, List.append_nil, Option.toList, if_true, if_false, Bool.false_eq_true, and_true, true_and, and_self]
  rfl
/-- the game while the caps are read -/
def cg (r : xG) : Prop := jk r ∧ (∀ c, c < 12 → (1 ≤ r 2 c ∧ r 2 c ≤ 8) ∧ r 3 c = 0 ∧ r 4 c = 0) ∧ r 0 4 = 1 ∧ r 0 5 = 0 ∧ r 0 6 = 0 ∧ r 0 7 = 5 ∧ r 5 1 = 0 ∧ r 5 2 = 0 ∧ r 6 1 = 0 ∧ r 6 2 = 0
theorem ly_nrm (h : nrm r) : nrm (ly 12 r) := by
  intro a i hu
  have h0 := h a i hu
  show (if a = 2 ∧ i < 12 then 3 else if (a = 3 ∨ a = 4) ∧ i < 12 then 0 else r a i) = 0
  by_cases hc : a = 2 ∧ i < 12
  · have := used_r (a := a) (i := i) (by omega) hc.2
    rw [this] at hu
    exact absurd hu (by decide)
  · rw [if_neg hc, h0]
    split <;> rfl
theorem rB_cg (h : jk r) : cg (rB r) := by
  refine ⟨⟨?_, h.2.1, h.2.2⟩, fun c hc => ?_, rfl, rfl, rfl, rfl, rfl, rfl, rfl, rfl⟩
  · exact nrm_up2 (nrm_up2 (nrm_up2 (nrm_up2 (nrm_up2 (nrm_up2 (nrm_up2 (nrm_up2 (ly_nrm (nrm_up2 h.1 (by decide))) (by decide)) (by decide)) (by decide)) (by decide)) (by decide)) (by decide)) (by decide)) (by decide)
  · have e2 : rB r 2 = ly 12 (up2 r 1 3 5) 2 := rfl
    have e3 : rB r 3 = ly 12 (up2 r 1 3 5) 3 := rfl
    have e4 : rB r 4 = ly 12 (up2 r 1 3 5) 4 := rfl
    have l2 : ly 12 (up2 r 1 3 5) 2 c = 3 := if_pos ⟨rfl, hc⟩
    have l3 : ly 12 (up2 r 1 3 5) 3 c = 0 := (if_neg (fun z => absurd z.1 (by decide))).trans (if_pos ⟨Or.inl rfl, hc⟩)
    have l4 : ly 12 (up2 r 1 3 5) 4 c = 0 := (if_neg (fun z => absurd z.1 (by decide))).trans (if_pos ⟨Or.inr rfl, hc⟩)
    rw [e2, e3, e4, l2, l3, l4]
    decide
theorem cg_w {i : Nat} (h : cg r) (hi : i < 12) (hv : 1 ≤ v ∧ v ≤ 8) : cg (up2 r 2 i v) := by
  obtain ⟨h1, h2, h3⟩ := h
  refine ⟨jk_up2 h1 (used_r (by decide) hi) (by decide), fun c hc => ?_, h3⟩
  have := h2 c hc
  have e3 : up2 r 2 i v 3 = r 3 := up2_a _ (by decide)
  have e4 : up2 r 2 i v 4 = r 4 := up2_a _ (by decide)
  rw [e3, e4]
  refine ⟨?_, this.2⟩
  by_cases hci : c = i
  · rw [hci, up2_e]
    exact hv
  · rw [up2_i _ hci]
    exact this.1
theorem cg_gd {k : Nat} (h : cg r) (hk : 5 ≤ k ∧ k ≤ 12) : gd 0 (up2 r 1 3 k) := by
  obtain ⟨h1, h2, h3, h4, h5, h6, h7, h8, h9, h10⟩ := h
  refine ⟨⟨hk, fun c hc => ?_, fun c hc => ?_, ?_, ?_, h1.2, ?_⟩, fun c hc => ?_, nrm_up2 h1.1 (by decide), ?_, ?_⟩
  · have := h2 c hc
    show r 2 c ≤ 8 ∧ r 3 c ≤ 8 ∧ r 4 c < 2 ^ r 3 c
    rw [this.2.1, this.2.2]
    exact ⟨this.1.2, by decide, by decide⟩
  · exact (h2 c (Nat.lt_of_lt_of_le hc hk.2)).1.1
  · show 1 ≤ r 0 4 ∧ r 0 4 ≤ 2
    rw [h3]; decide
  · show r 5 1 ≤ 20 ∧ r 5 2 ≤ 20
    rw [h7, h8]; decide
  · show r 0 6 ≤ 20 ∧ r 0 7 ≤ 40
    rw [h5, h6]; decide
  · show r 3 c ≤ r 2 c
    rw [(h2 c (Nat.lt_of_lt_of_le hc hk.2)).2.1]
    exact Nat.zero_le _
  · show r 6 1 ≤ 4 * 0 ∧ r 6 2 ≤ 4 * 0
    rw [h9, h10]; decide
  · show r 0 5 ≤ 0
    rw [h4]; decide
theorem capsL_gd : ∀ m i s r s' r', m + i = 12 → s ≤ n → cg r → capsL T n m i s r = .inr (s', r') → gd 0 r' ∧ s' ≤ n := by
  intro m
  induction m with
  | zero =>
    intro i s r s' r' h hs hr hq
    have hq : (if kK T n s = 3 then (.inr (nS T n s, up2 r 1 3 i) : Sum (Int32 × Nat) (Nat × xG)) else .inl (nI 0 - nI 2, s)) = .inr (s', r') := hq
    by_cases hk : kK T n s = 3
    · rw [if_pos hk] at hq
      have h1 := inr_2 hq
      have h2 : nS T n s = s' := congrArg Prod.fst (Sum.inr.inj hq)
      rw [← h1, ← h2]
      exact ⟨cg_gd hr (by omega), (nS_le hs).2⟩
    · rw [if_neg hk] at hq
      exact absurd hq (by simp)
  | succ m ih =>
    intro i s r s' r' h hs hr hq
    have hq : (if 5 ≤ i ∧ kK T n s = 3 then (.inr (nS T n s, up2 r 1 3 i) : Sum (Int32 × Nat) (Nat × xG)) else match tkN T n 1 8 s with
      | some c => .inl (c, s)
      | none => capsL T n m (i + 1) (nS T n s) (up2 r 2 i (vS T n s))) = .inr (s', r') := hq
    by_cases hk : 5 ≤ i ∧ kK T n s = 3
    · rw [if_pos hk] at hq
      have h1 := inr_2 hq
      have h2 : nS T n s = s' := congrArg Prod.fst (Sum.inr.inj hq)
      rw [← h1, ← h2]
      exact ⟨cg_gd hr (by omega), (nS_le hs).2⟩
    · rw [if_neg hk] at hq
      cases hN : tkN T n 1 8 s with
      | some c =>
        rw [hN] at hq
        exact absurd hq (by simp)
      | none =>
        rw [hN] at hq
        exact ih (i + 1) (nS T n s) (up2 r 2 i (vS T n s)) s' r' (by omega) (nS_le hs).2 (cg_w hr (by omega) (tkN_in hN)) hq
theorem readsC_gd {s' : Nat} (hs : s ≤ n) (hr : cg r) (h : readsC T n s r = .inr (s', r')) : gd 0 r' ∧ s' ≤ n := by
  unfold readsC at h
  split at h
  · exact capsL_gd 12 0 (nS T n s) r s' r' rfl (nS_le hs).2 hr h
  · exact absurd h (by simp)
/-- the whole text -/
def parse (T : Nat → Nat) (n : Nat) (r : xG) : Sum (Int32 × Nat) (Nat × xG) := match readsC T n (nT T n 0) (rB r) with
  | .inl x => .inl x
  | .inr (s, r) => optL T n (n + 1) s r
/-- the model's empty row -/
def aB (i : Nat) (A : Nat → Nat) : Nat → Nat := fun x => if x < i then 0 else A x
def aC (i : Nat) (A : Nat → Nat) : Nat → Nat := fun x => if 21 ≤ x ∧ x < 21 + i then 1 else A x
theorem aB_s {i : Nat} : upN (aB i A) i 0 = aB (i + 1) A := by
  funext x
  show (if x = i then 0 else if x < i then 0 else A x) = (if x < i + 1 then 0 else A x)
  by_cases h : x = i
  · rw [if_pos h, if_pos (by omega)]
  · rw [if_neg h]
    by_cases h2 : x < i
    · rw [if_pos h2, if_pos (by omega)]
    · rw [if_neg h2, if_neg (by omega)]
theorem aC_s {i : Nat} : upN (aC i A) (21 + i) 1 = aC (i + 1) A := by
  funext x
  show (if x = 21 + i then 1 else if 21 ≤ x ∧ x < 21 + i then 1 else A x) = (if 21 ≤ x ∧ x < 21 + (i + 1) then 1 else A x)
  by_cases h : x = 21 + i
  · rw [if_pos h, if_pos (by omega)]
  · rw [if_neg h]
    by_cases h2 : 21 ≤ x ∧ x < 21 + i
    · rw [if_pos h2, if_pos (by omega)]
    · rw [if_neg h2, if_neg (by omega)]
theorem s122a : ∀ m i, m + i = 574 → ev xs L 122 2 [.ref 235, .int (nI i)] [] (hS (ms S f (aB i A)) t) = ev xs L 122 22 [.ref 235, .int (nI 574)] [] (hS (ms S f (aB 574 A)) t) := by
  intro m
  induction m with
  | zero =>
    intro i h
    have hi : i = 574 := by omega
    subst hi
    simp (config := { decide := false, maxSteps := 1000000 }) (disch := first | assumption | exact nlg_i _ | exact nlg_r _ | exact nlg_n | omega | decide) only [r122_2, r122_3, r122_6, st_g0_0, st_g0_1, st_g0_2, st_g0_3, st_g0_4, st_p0_4, st_g0_5, st_p0_5, st_g0_6, st_p0_6, st_g0_7, st_p0_7, st_v0, st_g1_0, st_g1_1, st_g1_2, st_g1_3, st_p1_3, st_v1, st_g7_0, st_g7_1, st_p7_1, st_g7_2, st_p7_2, st_v7, st_i2, st_is2, st_i3, st_is3, st_i4, st_is4, st_i5, st_is5, st_i6, st_is6, st_l8, st_ls8, st_y2, st_y3, st_y4, st_y8, st_o100_0, st_o100_1, st_o100_2, st_o100_3, st_o100_4, st_o100_5, st_o100_6, st_o100_7, st_q100_7, st_o100_8, st_q100_8, st_w100, st_o110_0, st_o110_1, st_w110, st_o129_0, st_o129_1, st_q129_1, st_o129_2, st_q129_2, st_w129, st_o205_0, st_o205_1, st_q205_1, st_o205_2, st_o205_3, st_q205_3, st_o205_4, st_q205_4, st_o205_5, st_q205_5, st_o205_6, st_q205_6, st_o205_7, st_q205_7, st_o205_8, st_q205_8, st_o205_9, st_q205_9, st_w205, st_o235_0, st_o235_1, st_o235_2, st_o235_3, st_o235_4, st_o235_5, st_o235_6, st_o235_7, st_q235_7, st_o235_8, st_q235_8, st_o235_9, st_o235_10, st_q235_10, st_o235_11, st_q235_11, st_o235_12, st_q235_12, st_o235_13, st_q235_13, st_o235_14, st_q235_14, st_o235_15, st_q235_15, st_o235_16, st_q235_16, st_o235_17, st_q235_17, st_o235_18, st_q235_18, st_o235_19, st_o235_20, st_o235_21, st_q235_21, st_o235_22, st_q235_22, st_o235_23, st_o235_24, st_q235_24, st_w235, st_a204, st_as204, st_a206, st_as206, st_a216, st_as216, st_a236, st_as236, st_a237, st_as237, st_a238, st_as238, st_a239, st_as239, st_a240, st_as240, st_a241, st_as241, st_a242, st_as242, st_a243, st_as243, st_a244, st_as244, st_a245, st_as245, st_a246, st_as246, st_r130, st_r203, nx_in, nx_clamp, nx_i2n, nx_l2n, nx_add, nx_sub, nx_pred, nx_mul, nx_lt, nx_le, nx_eq, nx_shl, nx_shr, nx_and1, nx_andm, nx_m1, nx_or, nx_dr, nx_rem, nx_kC, nx_ift, nx_iff, ↓nif_lt_t, ↓nif_lt_f, ↓nif_le_t, ↓nif_le_f, ↓nif_eq_t, ↓nif_eq_f, ↓nif_ne_t, ↓nif_ne_f, Nat.one_mul, List.cons_append, List.nil_append, List.append_nil, Option.toList, if_true, if_false, Bool.false_eq_true, and_true, true_and, and_self]
  | succ m ih =>
    intro i h
    have e1 := ih (i + 1) (by omega)
    rw [← e1, r122_2]
    simp (config := { decide := false, maxSteps := 1000000 }) (disch := first | assumption | exact nlg_i _ | exact nlg_r _ | exact nlg_n | omega | decide) only [r122_3, r122_6, r122_9, r122_10, r122_13, r122_14, r122_15, r122_16, r122_19, st_g0_0, st_g0_1, st_g0_2, st_g0_3, st_g0_4, st_p0_4, st_g0_5, st_p0_5, st_g0_6, st_p0_6, st_g0_7, st_p0_7, st_v0, st_g1_0, st_g1_1, st_g1_2, st_g1_3, st_p1_3, st_v1, st_g7_0, st_g7_1, st_p7_1, st_g7_2, st_p7_2, st_v7, st_i2, st_is2, st_i3, st_is3, st_i4, st_is4, st_i5, st_is5, st_i6, st_is6, st_l8, st_ls8, st_y2, st_y3, st_y4, st_y8, st_o100_0, st_o100_1, st_o100_2, st_o100_3, st_o100_4, st_o100_5, st_o100_6, st_o100_7, st_q100_7, st_o100_8, st_q100_8, st_w100, st_o110_0, st_o110_1, st_w110, st_o129_0, st_o129_1, st_q129_1, st_o129_2, st_q129_2, st_w129, st_o205_0, st_o205_1, st_q205_1, st_o205_2, st_o205_3, st_q205_3, st_o205_4, st_q205_4, st_o205_5, st_q205_5, st_o205_6, st_q205_6, st_o205_7, st_q205_7, st_o205_8, st_q205_8, st_o205_9, st_q205_9, st_w205, st_o235_0, st_o235_1, st_o235_2, st_o235_3, st_o235_4, st_o235_5, st_o235_6, st_o235_7, st_q235_7, st_o235_8, st_q235_8, st_o235_9, st_o235_10, st_q235_10, st_o235_11, st_q235_11, st_o235_12, st_q235_12, st_o235_13, st_q235_13, st_o235_14, st_q235_14, st_o235_15, st_q235_15, st_o235_16, st_q235_16, st_o235_17, st_q235_17, st_o235_18, st_q235_18, st_o235_19, st_o235_20, st_o235_21, st_q235_21, st_o235_22, st_q235_22, st_o235_23, st_o235_24, st_q235_24, st_w235, st_a204, st_as204, st_a206, st_as206, st_a216, st_as216, st_a236, st_as236, st_a237, st_as237, st_a238, st_as238, st_a239, st_as239, st_a240, st_as240, st_a241, st_as241, st_a242, st_as242, st_a243, st_as243, st_a244, st_as244, st_a245, st_as245, st_a246, st_as246, st_r130, st_r203, nx_in, nx_clamp, nx_i2n, nx_l2n, nx_add, nx_sub, nx_pred, nx_mul, nx_lt, nx_le, nx_eq, nx_shl, nx_shr, nx_and1, nx_andm, nx_m1, nx_or, nx_dr, nx_rem, nx_kC, nx_ift, nx_iff, ms_sA, aB_s, ↓nif_lt_t, ↓nif_lt_f, ↓nif_le_t, ↓nif_le_f, ↓nif_eq_t, ↓nif_eq_f, ↓nif_ne_t, ↓nif_ne_f, Nat.one_mul, List.cons_append, List.nil_append, List.append_nil, Option.toList, if_true, if_false, Bool.false_eq_true, and_true, true_and, and_self]
theorem s122b : ∀ m i, m + i = 12 → ev xs L 122 39 [.ref 235, .int (nI i)] [] (hS (ms S f (aC i A)) t) = some (.inl none, hS (ms S f (aC 12 A)) t) := by
  intro m
  induction m with
  | zero =>
    intro i h
    have hi : i = 12 := by omega
    subst hi
    simp (config := { decide := false, maxSteps := 1000000 }) (disch := first | assumption | exact nlg_i _ | exact nlg_r _ | exact nlg_n | omega | decide) only [r122_39, r122_40, r122_42, r122_45, r122_46, r122_49, r122_51, r122_52, r122_53, r122_54, r122_55, r122_58, r122_61, st_g0_0, st_g0_1, st_g0_2, st_g0_3, st_g0_4, st_p0_4, st_g0_5, st_p0_5, st_g0_6, st_p0_6, st_g0_7, st_p0_7, st_v0, st_g1_0, st_g1_1, st_g1_2, st_g1_3, st_p1_3, st_v1, st_g7_0, st_g7_1, st_p7_1, st_g7_2, st_p7_2, st_v7, st_i2, st_is2, st_i3, st_is3, st_i4, st_is4, st_i5, st_is5, st_i6, st_is6, st_l8, st_ls8, st_y2, st_y3, st_y4, st_y8, st_o100_0, st_o100_1, st_o100_2, st_o100_3, st_o100_4, st_o100_5, st_o100_6, st_o100_7, st_q100_7, st_o100_8, st_q100_8, st_w100, st_o110_0, st_o110_1, st_w110, st_o129_0, st_o129_1, st_q129_1, st_o129_2, st_q129_2, st_w129, st_o205_0, st_o205_1, st_q205_1, st_o205_2, st_o205_3, st_q205_3, st_o205_4, st_q205_4, st_o205_5, st_q205_5, st_o205_6, st_q205_6, st_o205_7, st_q205_7, st_o205_8, st_q205_8, st_o205_9, st_q205_9, st_w205, st_o235_0, st_o235_1, st_o235_2, st_o235_3, st_o235_4, st_o235_5, st_o235_6, st_o235_7, st_q235_7, st_o235_8, st_q235_8, st_o235_9, st_o235_10, st_q235_10, st_o235_11, st_q235_11, st_o235_12, st_q235_12, st_o235_13, st_q235_13, st_o235_14, st_q235_14, st_o235_15, st_q235_15, st_o235_16, st_q235_16, st_o235_17, st_q235_17, st_o235_18, st_q235_18, st_o235_19, st_o235_20, st_o235_21, st_q235_21, st_o235_22, st_q235_22, st_o235_23, st_o235_24, st_q235_24, st_w235, st_a204, st_as204, st_a206, st_as206, st_a216, st_as216, st_a236, st_as236, st_a237, st_as237, st_a238, st_as238, st_a239, st_as239, st_a240, st_as240, st_a241, st_as241, st_a242, st_as242, st_a243, st_as243, st_a244, st_as244, st_a245, st_as245, st_a246, st_as246, st_r130, st_r203, nx_in, nx_clamp, nx_i2n, nx_l2n, nx_add, nx_sub, nx_pred, nx_mul, nx_lt, nx_le, nx_eq, nx_shl, nx_shr, nx_and1, nx_andm, nx_m1, nx_or, nx_dr, nx_rem, nx_kC, nx_ift, nx_iff, ↓nif_lt_t, ↓nif_lt_f, ↓nif_le_t, ↓nif_le_f, ↓nif_eq_t, ↓nif_eq_f, ↓nif_ne_t, ↓nif_ne_f, Nat.one_mul, List.cons_append, List.nil_append, List.append_nil, Option.toList, if_true, if_false, Bool.false_eq_true, and_true, true_and, and_self]
  | succ m ih =>
    intro i h
    have e1 := ih (i + 1) (by omega)
    rw [r122_39]
    simp (config := { decide := false, maxSteps := 1000000 }) (disch := first | assumption | exact nlg_i _ | exact nlg_r _ | exact nlg_n | omega | decide) only [r122_40, r122_42, r122_45, r122_46, r122_49, r122_51, r122_52, r122_53, r122_54, r122_55, r122_58, st_g0_0, st_g0_1, st_g0_2, st_g0_3, st_g0_4, st_p0_4, st_g0_5, st_p0_5, st_g0_6, st_p0_6, st_g0_7, st_p0_7, st_v0, st_g1_0, st_g1_1, st_g1_2, st_g1_3, st_p1_3, st_v1, st_g7_0, st_g7_1, st_p7_1, st_g7_2, st_p7_2, st_v7, st_i2, st_is2, st_i3, st_is3, st_i4, st_is4, st_i5, st_is5, st_i6, st_is6, st_l8, st_ls8, st_y2, st_y3, st_y4, st_y8, st_o100_0, st_o100_1, st_o100_2, st_o100_3, st_o100_4, st_o100_5, st_o100_6, st_o100_7, st_q100_7, st_o100_8, st_q100_8, st_w100, st_o110_0, st_o110_1, st_w110, st_o129_0, st_o129_1, st_q129_1, st_o129_2, st_q129_2, st_w129, st_o205_0, st_o205_1, st_q205_1, st_o205_2, st_o205_3, st_q205_3, st_o205_4, st_q205_4, st_o205_5, st_q205_5, st_o205_6, st_q205_6, st_o205_7, st_q205_7, st_o205_8, st_q205_8, st_o205_9, st_q205_9, st_w205, st_o235_0, st_o235_1, st_o235_2, st_o235_3, st_o235_4, st_o235_5, st_o235_6, st_o235_7, st_q235_7, st_o235_8, st_q235_8, st_o235_9, st_o235_10, st_q235_10, st_o235_11, st_q235_11, st_o235_12, st_q235_12, st_o235_13, st_q235_13, st_o235_14, st_q235_14, st_o235_15, st_q235_15, st_o235_16, st_q235_16, st_o235_17, st_q235_17, st_o235_18, st_q235_18, st_o235_19, st_o235_20, st_o235_21, st_q235_21, st_o235_22, st_q235_22, st_o235_23, st_o235_24, st_q235_24, st_w235, st_a204, st_as204, st_a206, st_as206, st_a216, st_as216, st_a236, st_as236, st_a237, st_as237, st_a238, st_as238, st_a239, st_as239, st_a240, st_as240, st_a241, st_as241, st_a242, st_as242, st_a243, st_as243, st_a244, st_as244, st_a245, st_as245, st_a246, st_as246, st_r130, st_r203, nx_in, nx_clamp, nx_i2n, nx_l2n, nx_add, nx_sub, nx_pred, nx_mul, nx_lt, nx_le, nx_eq, nx_shl, nx_shr, nx_and1, nx_andm, nx_m1, nx_or, nx_dr, nx_rem, nx_kC, nx_ift, nx_iff, ms_sA, aC_s, e1, ↓nif_lt_t, ↓nif_lt_f, ↓nif_le_t, ↓nif_le_f, ↓nif_eq_t, ↓nif_eq_f, ↓nif_ne_t, ↓nif_ne_f, Nat.one_mul, List.cons_append, List.nil_append, List.append_nil, Option.toList, if_true, if_false, Bool.false_eq_true, and_true, true_and, and_self]
def aA (A : Nat → Nat) : Nat → Nat := aC 12 (upN (upN (aB 574 A) 3 5) 6 1)
theorem s122 : ev xs L 122 0 [.ref 235, .null] [] (hS (ms S f A) t) = some (.inl none, hS (ms S f (aA A)) t) := by
  have e1 := s122a (xs := xs) (L := L) (S := S) (f := f) (t := t) (A := A) 574 0 rfl
  rw [show aB 0 A = A by funext x; exact if_neg (by omega)] at e1
  have e2 := s122b (xs := xs) (L := L) (S := S) (f := f) (t := t) (A := upN (upN (aB 574 A) 3 5) 6 1) 12 0 rfl
  rw [show aC 0 (upN (upN (aB 574 A) 3 5) 6 1) = upN (upN (aB 574 A) 3 5) 6 1 by funext x; exact if_neg (by omega)] at e2
  simp (config := { decide := false, maxSteps := 1000000 }) (disch := first | assumption | exact nlg_i _ | exact nlg_r _ | exact nlg_n | omega | decide) only [r122_0, r122_1, r122_22, r122_23, r122_26, r122_27, r122_28, r122_29, r122_30, r122_33, r122_35, r122_36, r122_37, r122_38, st_g0_0, st_g0_1, st_g0_2, st_g0_3, st_g0_4, st_p0_4, st_g0_5, st_p0_5, st_g0_6, st_p0_6, st_g0_7, st_p0_7, st_v0, st_g1_0, st_g1_1, st_g1_2, st_g1_3, st_p1_3, st_v1, st_g7_0, st_g7_1, st_p7_1, st_g7_2, st_p7_2, st_v7, st_i2, st_is2, st_i3, st_is3, st_i4, st_is4, st_i5, st_is5, st_i6, st_is6, st_l8, st_ls8, st_y2, st_y3, st_y4, st_y8, st_o100_0, st_o100_1, st_o100_2, st_o100_3, st_o100_4, st_o100_5, st_o100_6, st_o100_7, st_q100_7, st_o100_8, st_q100_8, st_w100, st_o110_0, st_o110_1, st_w110, st_o129_0, st_o129_1, st_q129_1, st_o129_2, st_q129_2, st_w129, st_o205_0, st_o205_1, st_q205_1, st_o205_2, st_o205_3, st_q205_3, st_o205_4, st_q205_4, st_o205_5, st_q205_5, st_o205_6, st_q205_6, st_o205_7, st_q205_7, st_o205_8, st_q205_8, st_o205_9, st_q205_9, st_w205, st_o235_0, st_o235_1, st_o235_2, st_o235_3, st_o235_4, st_o235_5, st_o235_6, st_o235_7, st_q235_7, st_o235_8, st_q235_8, st_o235_9, st_o235_10, st_q235_10, st_o235_11, st_q235_11, st_o235_12, st_q235_12, st_o235_13, st_q235_13, st_o235_14, st_q235_14, st_o235_15, st_q235_15, st_o235_16, st_q235_16, st_o235_17, st_q235_17, st_o235_18, st_q235_18, st_o235_19, st_o235_20, st_o235_21, st_q235_21, st_o235_22, st_q235_22, st_o235_23, st_o235_24, st_q235_24, st_w235, st_a204, st_as204, st_a206, st_as206, st_a216, st_as216, st_a236, st_as236, st_a237, st_as237, st_a238, st_as238, st_a239, st_as239, st_a240, st_as240, st_a241, st_as241, st_a242, st_as242, st_a243, st_as243, st_a244, st_as244, st_a245, st_as245, st_a246, st_as246, st_r130, st_r203, nx_in, nx_clamp, nx_i2n, nx_l2n, nx_add, nx_sub, nx_pred, nx_mul, nx_lt, nx_le, nx_eq, nx_shl, nx_shr, nx_and1, nx_andm, nx_m1, nx_or, nx_dr, nx_rem, nx_kC, nx_ift, nx_iff, ms_sA, e1, e2, ↓nif_lt_t, ↓nif_lt_f, ↓nif_le_t, ↓nif_le_f, ↓nif_eq_t, ↓nif_eq_f, ↓nif_ne_t, ↓nif_ne_f, Nat.one_mul, List.cons_append, List.nil_append, List.append_nil, Option.toList, if_true, if_false, Bool.false_eq_true, and_true, true_and, and_self]
  rfl
theorem aA_cre (h : cg r) : cre 0 (aA A) r := by
  obtain ⟨h1, h2, h3, h4, h5, h6, h7, h8, h9, h10⟩ := h
  have hz : ∀ x, x ≠ 3 → x ≠ 6 → ¬ (21 ≤ x ∧ x < 33) → x < 574 → aA A x = 0 := by
    intro x a b c d
    show (if 21 ≤ x ∧ x < 21 + 12 then 1 else upN (upN (aB 574 A) 3 5) 6 1 x) = 0
    rw [if_neg c, upN_n b, upN_n a]
    exact if_pos d
  refine ⟨⟨?_, ?_, ?_, ?_, ?_, ?_, ?_, ?_, ?_⟩, fun c hc => by omega, fun c _ hc => hz _ (by omega) (by omega) (by omega) (by omega), fun c hc => ⟨?_, (h2 c hc).2⟩, fun x h33 h574 => hz x (by omega) (by omega) (by omega) h574⟩
  · exact hz 0 (by omega) (by omega) (by omega) (by omega)
  · rw [h4]; exact hz 1 (by omega) (by omega) (by omega) (by omega)
  · rw [h5]; exact hz 2 (by omega) (by omega) (by omega) (by omega)
  · rw [h6]; rfl
  · rw [h9]; exact hz 4 (by omega) (by omega) (by omega) (by omega)
  · rw [h10]; exact hz 5 (by omega) (by omega) (by omega) (by omega)
  · rw [h3]; rfl
  · rw [h7]; exact hz 7 (by omega) (by omega) (by omega) (by omega)
  · rw [h8]; exact hz 8 (by omega) (by omega) (by omega) (by omega)
  · exact if_pos ⟨by omega, by omega⟩
end XBG
