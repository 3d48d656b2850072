section XMK
variable {xs : Nat → Int32} {L : Nat} {S : xS} {t : Nat × Nat × Nat} {A B C P H : Nat → Nat} {ls gv : Int32} {n c m code v : Nat} {cap : Nat → Nat} {r : xG}
theorem mrel_x {i a j : Nat} (hm : mrel A r) (hi : i < 9) (h0 : upN A i v 0 = up2 r a j v 1 3) (h1 : upN A i v 1 = up2 r a j v 0 5) (h2 : upN A i v 2 = up2 r a j v 0 6) (h3 : upN A i v 3 = up2 r a j v 0 7) (h4 : upN A i v 4 = up2 r a j v 6 1) (h5 : upN A i v 5 = up2 r a j v 6 2) (h6 : upN A i v 6 = up2 r a j v 0 4) (h7 : upN A i v 7 = up2 r a j v 5 1) (h8 : upN A i v 8 = up2 r a j v 5 2) (e1 : up2 r a j v 1 3 = r 1 3) (ha : a = 0 ∨ 4 < a) : mrel (upN A i v) (up2 r a j v) := by
  have r2 : up2 r a j v 2 = r 2 := up2_a _ (by omega)
  have r3 : up2 r a j v 3 = r 3 := up2_a _ (by omega)
  have r4 : up2 r a j v 4 = r 4 := up2_a _ (by omega)
  refine ⟨⟨h0, h1, h2, h3, h4, h5, h6, h7, h8⟩, fun c hc => ?_, fun c hc hc2 => ?_⟩
  · rw [e1] at hc
    rw [upN_n (by omega), upN_n (by omega), r2, r3, r4]
    exact hm.2.1 c hc
  · rw [e1] at hc
    rw [upN_n (by omega), upN_n (by omega)]
    exact hm.2.2 c hc hc2
theorem mrel_1 (hm : mrel A r) : mrel (upN A 1 v) (up2 r 0 5 v) := by
  have h := hm.1
  exact mrel_x hm (by decide) h.1 rfl h.2.2.1 h.2.2.2.1 h.2.2.2.2.1 h.2.2.2.2.2.1 h.2.2.2.2.2.2.1 h.2.2.2.2.2.2.2.1 h.2.2.2.2.2.2.2.2 rfl (Or.inl rfl)
theorem mrel_2 (hm : mrel A r) : mrel (upN A 2 v) (up2 r 0 6 v) := by
  have h := hm.1
  exact mrel_x hm (by decide) h.1 h.2.1 rfl h.2.2.2.1 h.2.2.2.2.1 h.2.2.2.2.2.1 h.2.2.2.2.2.2.1 h.2.2.2.2.2.2.2.1 h.2.2.2.2.2.2.2.2 rfl (Or.inl rfl)
theorem mrel_4 (hm : mrel A r) : mrel (upN A 4 v) (up2 r 6 1 v) := by
  have h := hm.1
  exact mrel_x hm (by decide) h.1 h.2.1 h.2.2.1 h.2.2.2.1 rfl h.2.2.2.2.2.1 h.2.2.2.2.2.2.1 h.2.2.2.2.2.2.2.1 h.2.2.2.2.2.2.2.2 rfl (Or.inr (by decide))
theorem mrel_5 (hm : mrel A r) : mrel (upN A 5 v) (up2 r 6 2 v) := by
  have h := hm.1
  exact mrel_x hm (by decide) h.1 h.2.1 h.2.2.1 h.2.2.2.1 h.2.2.2.2.1 rfl h.2.2.2.2.2.2.1 h.2.2.2.2.2.2.2.1 h.2.2.2.2.2.2.2.2 rfl (Or.inr (by decide))
theorem mrel_6 (hm : mrel A r) : mrel (upN A 6 v) (up2 r 0 4 v) := by
  have h := hm.1
  exact mrel_x hm (by decide) h.1 h.2.1 h.2.2.1 h.2.2.2.1 h.2.2.2.2.1 h.2.2.2.2.2.1 rfl h.2.2.2.2.2.2.2.1 h.2.2.2.2.2.2.2.2 rfl (Or.inl rfl)
theorem mrel_7 (hm : mrel A r) : mrel (upN A 7 v) (up2 r 5 1 v) := by
  have h := hm.1
  exact mrel_x hm (by decide) h.1 h.2.1 h.2.2.1 h.2.2.2.1 h.2.2.2.2.1 h.2.2.2.2.2.1 h.2.2.2.2.2.2.1 rfl h.2.2.2.2.2.2.2.2 rfl (Or.inr (by decide))
theorem mrel_8 (hm : mrel A r) : mrel (upN A 8 v) (up2 r 5 2 v) := by
  have h := hm.1
  exact mrel_x hm (by decide) h.1 h.2.1 h.2.2.1 h.2.2.2.1 h.2.2.2.2.1 h.2.2.2.2.2.1 h.2.2.2.2.2.2.1 h.2.2.2.2.2.2.2.1 rfl rfl (Or.inr (by decide))
theorem mrel_bd {b : xB} (hn : r 1 3 ≤ 12) (hm : mrel A r) : mrel (astk A b (r 1 3)) (upR (upR r 4 b.2) 3 b.1) := by
  have h := hm.1
  refine ⟨⟨?_, ?_, ?_, ?_, ?_, ?_, ?_, ?_, ?_⟩, fun c hc => ?_, fun c hc hc2 => ?_⟩
  · rw [astk_o (by omega)]; exact h.1
  · rw [astk_o (by omega)]; exact h.2.1
  · rw [astk_o (by omega)]; exact h.2.2.1
  · rw [astk_o (by omega)]; exact h.2.2.2.1
  · rw [astk_o (by omega)]; exact h.2.2.2.2.1
  · rw [astk_o (by omega)]; exact h.2.2.2.2.2.1
  · rw [astk_o (by omega)]; exact h.2.2.2.2.2.2.1
  · rw [astk_o (by omega)]; exact h.2.2.2.2.2.2.2.1
  · rw [astk_o (by omega)]; exact h.2.2.2.2.2.2.2.2
  · have hc' : c < r 1 3 := hc
    refine ⟨?_, astk_i hc'⟩
    rw [astk_o (by omega)]
    exact (hm.2.1 c hc').1
  · have hc' : r 1 3 ≤ c := hc
    rw [astk_o (by omega), astk_o (by omega)]
    exact hm.2.2 c hc' hc2
theorem mrel_cap (hn : 0 < r 1 3 ∧ r 1 3 ≤ 12) (hm : mrel A r) : mrel (acp A (rcap (r 1 3) (fun c => A (9 + c)))) (upR r 2 (rcap (r 1 3) (r 2))) := by
  have h := hm.1
  refine ⟨⟨?_, ?_, ?_, ?_, ?_, ?_, ?_, ?_, ?_⟩, fun c hc => ?_, fun c hc hc2 => ?_⟩
  · rw [acp_o (by omega)]; exact h.1
  · rw [acp_o (by omega)]; exact h.2.1
  · rw [acp_o (by omega)]; exact h.2.2.1
  · rw [acp_o (by omega)]; exact h.2.2.2.1
  · rw [acp_o (by omega)]; exact h.2.2.2.2.1
  · rw [acp_o (by omega)]; exact h.2.2.2.2.2.1
  · rw [acp_o (by omega)]; exact h.2.2.2.2.2.2.1
  · rw [acp_o (by omega)]; exact h.2.2.2.2.2.2.2.1
  · rw [acp_o (by omega)]; exact h.2.2.2.2.2.2.2.2
  · have hc' : c < r 1 3 := hc
    rw [acp_i (by omega), acp_o (by omega)]
    refine ⟨?_, (hm.2.1 c hc').2⟩
    show rcap (r 1 3) (fun c => A (9 + c)) c = rcap (r 1 3) (r 2) c
    cases c with
    | zero =>
      rw [rcap_0, rcap_0]
      exact (hm.2.1 _ (by omega)).1
    | succ c =>
      rw [rcap_s hc', rcap_s hc']
      exact (hm.2.1 _ (by omega)).1
  · have hc' : r 1 3 ≤ c := hc
    rw [acp_i (by omega), acp_o (by omega), rcap_out hc' hn.1]
    exact hm.2.2 c hc' hc2
theorem s175 (h : code < 2 ^ 31) (hp : xi_H) : ev xs L 175 0 [.int (nI code)] [] (hp) = some (.inl (some (.int (nI (if 3000 ≤ code then code - 3000 else if 2000 ≤ code then code - 2000 else code / 100)))), hp) := by
  have hz : ¬ nI 100 = 0 := by decide
  by_cases h3 : 3000 ≤ code
  · rw [if_pos h3]
    simp (config := { decide := false, maxSteps := 1000000 }) (disch := first | assumption | exact nlg_i _ | exact nlg_r _ | exact nlg_n | omega | decide) only [r175_0, r175_1, r175_4, r175_7, r175_8, r175_11, r175_12, r175_15, r175_16, r175_19, r175_22, r175_23, r175_26, r175_27, r175_30, r175_31, r175_33, r175_34, st_g0_0, st_g0_1, st_g0_2, st_g0_3, st_g0_4, st_p0_4, st_g0_5, st_p0_5, st_g0_6, st_p0_6, st_g0_7, st_p0_7, st_v0, st_g1_0, st_g1_1, st_g1_2, st_g1_3, st_p1_3, st_v1, st_g7_0, st_g7_1, st_p7_1, st_g7_2, st_p7_2, st_v7, st_i2, st_is2, st_i3, st_is3, st_i4, st_is4, st_i5, st_is5, st_i6, st_is6, st_l8, st_ls8, st_y2, st_y3, st_y4, st_y8, st_o100_0, st_o100_1, st_o100_2, st_o100_3, st_o100_4, st_o100_5, st_o100_6, st_o100_7, st_q100_7, st_o100_8, st_q100_8, st_w100, st_o110_0, st_o110_1, st_w110, st_o129_0, st_o129_1, st_q129_1, st_o129_2, st_q129_2, st_w129, st_o205_0, st_o205_1, st_q205_1, st_o205_2, st_o205_3, st_q205_3, st_o205_4, st_q205_4, st_o205_5, st_q205_5, st_o205_6, st_q205_6, st_o205_7, st_q205_7, st_o205_8, st_q205_8, st_o205_9, st_q205_9, st_w205, st_o235_0, st_o235_1, st_o235_2, st_o235_3, st_o235_4, st_o235_5, st_o235_6, st_o235_7, st_q235_7, st_o235_8, st_q235_8, st_o235_9, st_o235_10, st_q235_10, st_o235_11, st_q235_11, st_o235_12, st_q235_12, st_o235_13, st_q235_13, st_o235_14, st_q235_14, st_o235_15, st_q235_15, st_o235_16, st_q235_16, st_o235_17, st_q235_17, st_o235_18, st_q235_18, st_o235_19, st_o235_20, st_o235_21, st_q235_21, st_o235_22, st_q235_22, st_o235_23, st_o235_24, st_q235_24, st_w235, st_a204, st_as204, st_a206, st_as206, st_a216, st_as216, st_a236, st_as236, st_a237, st_as237, st_a238, st_as238, st_a239, st_as239, st_a240, st_as240, st_a241, st_as241, st_a242, st_as242, st_a243, st_as243, st_a244, st_as244, st_a245, st_as245, st_a246, st_as246, st_r130, st_r203, nx_in, nx_clamp, nx_i2n, nx_l2n, nx_add, nx_sub, nx_pred, nx_mul, nx_lt, nx_le, nx_eq, nx_shl, nx_shr, nx_and1, nx_andm, nx_m1, nx_or, nx_dr, nx_rem, nx_kC, nx_ift, nx_iff, ↓nif_lt_t, ↓nif_lt_f, ↓nif_le_t, ↓nif_le_f, ↓nif_eq_t, ↓nif_eq_f, ↓nif_ne_t, ↓nif_ne_f, Nat.one_mul, List.cons_append, List.nil_append, List.append_nil, Option.toList, if_true, if_false, Bool.false_eq_true, and_true, true_and, and_self]
  · rw [if_neg h3]
    by_cases h2 : 2000 ≤ code
    · rw [if_pos h2]
      simp (config := { decide := false, maxSteps := 1000000 }) (disch := first | assumption | exact nlg_i _ | exact nlg_r _ | exact nlg_n | omega | decide) only [r175_0, r175_1, r175_4, r175_7, r175_8, r175_11, r175_12, r175_15, r175_16, r175_19, r175_22, r175_23, r175_26, r175_27, r175_30, r175_31, r175_33, r175_34, st_g0_0, st_g0_1, st_g0_2, st_g0_3, st_g0_4, st_p0_4, st_g0_5, st_p0_5, st_g0_6, st_p0_6, st_g0_7, st_p0_7, st_v0, st_g1_0, st_g1_1, st_g1_2, st_g1_3, st_p1_3, st_v1, st_g7_0, st_g7_1, st_p7_1, st_g7_2, st_p7_2, st_v7, st_i2, st_is2, st_i3, st_is3, st_i4, st_is4, st_i5, st_is5, st_i6, st_is6, st_l8, st_ls8, st_y2, st_y3, st_y4, st_y8, st_o100_0, st_o100_1, st_o100_2, st_o100_3, st_o100_4, st_o100_5, st_o100_6, st_o100_7, st_q100_7, st_o100_8, st_q100_8, st_w100, st_o110_0, st_o110_1, st_w110, st_o129_0, st_o129_1, st_q129_1, st_o129_2, st_q129_2, st_w129, st_o205_0, st_o205_1, st_q205_1, st_o205_2, st_o205_3, st_q205_3, st_o205_4, st_q205_4, st_o205_5, st_q205_5, st_o205_6, st_q205_6, st_o205_7, st_q205_7, st_o205_8, st_q205_8, st_o205_9, st_q205_9, st_w205, st_o235_0, st_o235_1, st_o235_2, st_o235_3, st_o235_4, st_o235_5, st_o235_6, st_o235_7, st_q235_7, st_o235_8, st_q235_8, st_o235_9, st_o235_10, st_q235_10, st_o235_11, st_q235_11, st_o235_12, st_q235_12, st_o235_13, st_q235_13, st_o235_14, st_q235_14, st_o235_15, st_q235_15, st_o235_16, st_q235_16, st_o235_17, st_q235_17, st_o235_18, st_q235_18, st_o235_19, st_o235_20, st_o235_21, st_q235_21, st_o235_22, st_q235_22, st_o235_23, st_o235_24, st_q235_24, st_w235, st_a204, st_as204, st_a206, st_as206, st_a216, st_as216, st_a236, st_as236, st_a237, st_as237, st_a238, st_as238, st_a239, st_as239, st_a240, st_as240, st_a241, st_as241, st_a242, st_as242, st_a243, st_as243, st_a244, st_as244, st_a245, st_as245, st_a246, st_as246, st_r130, st_r203, nx_in, nx_clamp, nx_i2n, nx_l2n, nx_add, nx_sub, nx_pred, nx_mul, nx_lt, nx_le, nx_eq, nx_shl, nx_shr, nx_and1, nx_andm, nx_m1, nx_or, nx_dr, nx_rem, nx_kC, nx_ift, nx_iff, ↓nif_lt_t, ↓nif_lt_f, ↓nif_le_t, ↓nif_le_f, ↓nif_eq_t, ↓nif_eq_f, ↓nif_ne_t, ↓nif_ne_f, Nat.one_mul, List.cons_append, List.nil_append, List.append_nil, Option.toList, if_true, if_false, Bool.false_eq_true, and_true, true_and, and_self]
    · rw [if_neg h2]
      simp (config := { decide := false, maxSteps := 1000000 }) (disch := first | assumption | exact nlg_i _ | exact nlg_r _ | exact nlg_n | omega | decide) only [r175_0, r175_1, r175_4, r175_7, r175_8, r175_11, r175_12, r175_15, r175_16, r175_19, r175_22, r175_23, r175_26, r175_27, r175_30, r175_31, r175_33, r175_34, st_g0_0, st_g0_1, st_g0_2, st_g0_3, st_g0_4, st_p0_4, st_g0_5, st_p0_5, st_g0_6, st_p0_6, st_g0_7, st_p0_7, st_v0, st_g1_0, st_g1_1, st_g1_2, st_g1_3, st_p1_3, st_v1, st_g7_0, st_g7_1, st_p7_1, st_g7_2, st_p7_2, st_v7, st_i2, st_is2, st_i3, st_is3, st_i4, st_is4, st_i5, st_is5, st_i6, st_is6, st_l8, st_ls8, st_y2, st_y3, st_y4, st_y8, st_o100_0, st_o100_1, st_o100_2, st_o100_3, st_o100_4, st_o100_5, st_o100_6, st_o100_7, st_q100_7, st_o100_8, st_q100_8, st_w100, st_o110_0, st_o110_1, st_w110, st_o129_0, st_o129_1, st_q129_1, st_o129_2, st_q129_2, st_w129, st_o205_0, st_o205_1, st_q205_1, st_o205_2, st_o205_3, st_q205_3, st_o205_4, st_q205_4, st_o205_5, st_q205_5, st_o205_6, st_q205_6, st_o205_7, st_q205_7, st_o205_8, st_q205_8, st_o205_9, st_q205_9, st_w205, st_o235_0, st_o235_1, st_o235_2, st_o235_3, st_o235_4, st_o235_5, st_o235_6, st_o235_7, st_q235_7, st_o235_8, st_q235_8, st_o235_9, st_o235_10, st_q235_10, st_o235_11, st_q235_11, st_o235_12, st_q235_12, st_o235_13, st_q235_13, st_o235_14, st_q235_14, st_o235_15, st_q235_15, st_o235_16, st_q235_16, st_o235_17, st_q235_17, st_o235_18, st_q235_18, st_o235_19, st_o235_20, st_o235_21, st_q235_21, st_o235_22, st_q235_22, st_o235_23, st_o235_24, st_q235_24, st_w235, st_a204, st_as204, st_a206, st_as206, st_a216, st_as216, st_a236, st_as236, st_a237, st_as237, st_a238, st_as238, st_a239, st_as239, st_a240, st_as240, st_a241, st_as241, st_a242, st_as242, st_a243, st_as243, st_a244, st_as244, st_a245, st_as245, st_a246, st_as246, st_r130, st_r203, nx_in, nx_clamp, nx_i2n, nx_l2n, nx_add, nx_sub, nx_pred, nx_mul, nx_lt, nx_le, nx_eq, nx_shl, nx_shr, nx_and1, nx_andm, nx_m1, nx_or, nx_dr, nx_rem, nx_kC, nx_ift, nx_iff, ↓nif_lt_t, ↓nif_lt_f, ↓nif_le_t, ↓nif_le_f, ↓nif_eq_t, ↓nif_eq_f, ↓nif_ne_t, ↓nif_ne_f, Nat.one_mul, List.cons_append, List.nil_append, List.append_nil, Option.toList, if_true, if_false, Bool.false_eq_true, and_true, true_and, and_self]
theorem s176t (hg : gok r) (hl : hle r) (hm : mrel A r) (h5 : r 0 5 < 2 ^ 30) {x1 x2 x4 x5 : Value} : ∃ A' P' H' gv', mrel A' (tlR r) ∧ (∀ i, 33 ≤ i → A' i = A i) ∧ ev xs L 176 163 [.ref 235, x1, x2, .int (nI (r 0 4)), x4, x5] [] (hS (mw S A B C P H ls gv) t) = some (.inl none, hS (mw S A' B C P' H' ls gv') t) := by
  have hn := hg.1
  have ht := hg.2.2.2.1
  have m1 := hm.1.2.1
  have m2 := hm.1.2.2.1
  have h6 := hg.2.2.2.2.2.2.1
  have hm1 : mrel (upN A 1 (r 0 5 + 1)) (up2 r 0 5 (r 0 5 + 1)) := mrel_1 hm
  have e12 : upN A 1 (r 0 5 + 1) 2 = r 0 6 := by rw [upN_n (by decide)]; exact m2
  unfold tlR
  by_cases h1 : 0 < r 0 6
  · have hz : ¬ nI (r 0 6) = 0 := nI_ne0 h1 (by omega)
    have b9 : (r 0 5 + 1) % r 0 6 < r 0 6 := Nat.mod_lt _ h1
    by_cases h2 : (r 0 5 + 1) % r 0 6 = 0
    · have hg1 : gok (up2 r 0 5 (r 0 5 + 1)) := hg
      obtain ⟨P', H', gv', e1⟩ := s182 (xs := xs) (L := L) (S := S) (t := t) (A := upN A 1 (r 0 5 + 1)) (B := B) (C := C) (P := P) (H := H) (ls := ls) (gv := gv) hg1 hl hm1
      have hm2 : mrel _ (rtR (up2 r 0 5 (r 0 5 + 1))) := mrel_bd (r := upR (up2 r 0 5 (r 0 5 + 1)) 2 (rcap (r 1 3) (r 2))) (b := rotL (r 1 3) (rcap (r 1 3) (r 2)) (r 1 3) (r 3, r 4) 0) hn.2 (mrel_cap (r := up2 r 0 5 (r 0 5 + 1)) (by show 0 < r 1 3 ∧ r 1 3 ≤ 12; omega) hm1)
      have hm3 := mrel_6 (v := 3 - r 0 4) hm2
      refine ⟨_, P', H', gv', by rw [if_pos ⟨h1, h2⟩]; exact hm3, fun i hi => ?_, ?_⟩
      · rw [upN_n (by omega), astk_o (by show i < 21 ∨ 21 + r 1 3 ≤ i; omega), acp_o (by omega), upN_n (by omega)]
      · rw [r176_163]
        simp (config := { decide := false, maxSteps := 1000000 }) (disch := first | assumption | exact nlg_i _ | exact nlg_r _ | exact nlg_n | omega | decide) only [r176_0, r176_1, r176_4, r176_5, r176_6, r176_9, r176_11, r176_12, r176_13, r176_14, r176_15, r176_18, r176_21, r176_23, r176_24, r176_27, r176_30, r176_31, r176_34, r176_36, r176_37, r176_38, r176_39, r176_40, r176_41, r176_42, r176_43, r176_44, r176_45, r176_46, r176_49, r176_51, r176_52, r176_53, r176_54, r176_56, r176_57, r176_58, r176_59, r176_62, r176_63, r176_65, r176_66, r176_67, r176_68, r176_69, r176_70, r176_71, r176_72, r176_73, r176_75, r176_76, r176_77, r176_78, r176_81, r176_82, r176_85, r176_88, r176_89, r176_90, r176_93, r176_94, r176_96, r176_97, r176_98, r176_99, r176_100, r176_101, r176_102, r176_104, r176_105, r176_108, r176_110, r176_111, r176_112, r176_113, r176_115, r176_116, r176_118, r176_119, r176_120, r176_121, r176_122, r176_123, r176_124, r176_125, r176_126, r176_129, r176_130, r176_131, r176_132, r176_134, r176_135, r176_137, r176_138, r176_139, r176_141, r176_142, r176_143, r176_146, r176_147, r176_150, r176_151, r176_152, r176_153, r176_154, r176_155, r176_156, r176_157, r176_158, r176_161, r176_162, r176_164, r176_167, r176_168, r176_169, r176_170, r176_171, r176_172, r176_173, r176_174, r176_177, r176_178, r176_179, r176_182, r176_183, r176_186, r176_187, r176_188, r176_189, r176_192, r176_193, r176_194, r176_195, r176_198, r176_199, r176_202, r176_203, r176_206, r176_208, r176_209, r176_210, r176_211, r176_212, st_g0_0, st_g0_1, st_g0_2, st_g0_3, st_g0_4, st_p0_4, st_g0_5, st_p0_5, st_g0_6, st_p0_6, st_g0_7, st_p0_7, st_v0, st_g1_0, st_g1_1, st_g1_2, st_g1_3, st_p1_3, st_v1, st_g7_0, st_g7_1, st_p7_1, st_g7_2, st_p7_2, st_v7, st_i2, st_is2, st_i3, st_is3, st_i4, st_is4, st_i5, st_is5, st_i6, st_is6, st_l8, st_ls8, st_y2, st_y3, st_y4, st_y8, st_o100_0, st_o100_1, st_o100_2, st_o100_3, st_o100_4, st_o100_5, st_o100_6, st_o100_7, st_q100_7, st_o100_8, st_q100_8, st_w100, st_o110_0, st_o110_1, st_w110, st_o129_0, st_o129_1, st_q129_1, st_o129_2, st_q129_2, st_w129, st_o205_0, st_o205_1, st_q205_1, st_o205_2, st_o205_3, st_q205_3, st_o205_4, st_q205_4, st_o205_5, st_q205_5, st_o205_6, st_q205_6, st_o205_7, st_q205_7, st_o205_8, st_q205_8, st_o205_9, st_q205_9, st_w205, st_o235_0, st_o235_1, st_o235_2, st_o235_3, st_o235_4, st_o235_5, st_o235_6, st_o235_7, st_q235_7, st_o235_8, st_q235_8, st_o235_9, st_o235_10, st_q235_10, st_o235_11, st_q235_11, st_o235_12, st_q235_12, st_o235_13, st_q235_13, st_o235_14, st_q235_14, st_o235_15, st_q235_15, st_o235_16, st_q235_16, st_o235_17, st_q235_17, st_o235_18, st_q235_18, st_o235_19, st_o235_20, st_o235_21, st_q235_21, st_o235_22, st_q235_22, st_o235_23, st_o235_24, st_q235_24, st_w235, st_a204, st_as204, st_a206, st_as206, st_a216, st_as216, st_a236, st_as236, st_a237, st_as237, st_a238, st_as238, st_a239, st_as239, st_a240, st_as240, st_a241, st_as241, st_a242, st_as242, st_a243, st_as243, st_a244, st_as244, st_a245, st_as245, st_a246, st_as246, st_r130, st_r203, nx_in, nx_clamp, nx_i2n, nx_l2n, nx_add, nx_sub, nx_pred, nx_mul, nx_lt, nx_le, nx_eq, nx_shl, nx_shr, nx_and1, nx_andm, nx_m1, nx_or, nx_dr, nx_rem, nx_kC, nx_ift, nx_iff, mw_A, mw_sA, m1, m2, e12, upN_e, h1, h2, e1, ↓nif_lt_t, ↓nif_lt_f, ↓nif_le_t, ↓nif_le_f, ↓nif_eq_t, ↓nif_eq_f, ↓nif_ne_t, ↓nif_ne_f, Nat.one_mul, List.cons_append, List.nil_append, List.append_nil, Option.toList, if_true, if_false, Bool.false_eq_true, and_true, true_and, and_self]
        rfl
    · refine ⟨upN (upN A 1 (r 0 5 + 1)) 6 (3 - r 0 4), P, H, gv, by rw [if_neg (fun z => h2 z.2)]; exact mrel_6 hm1, fun i hi => by rw [upN_n (by omega), upN_n (by omega)], ?_⟩
      rw [r176_163]
      simp (config := { decide := false, maxSteps := 1000000 }) (disch := first | assumption | exact nlg_i _ | exact nlg_r _ | exact nlg_n | omega | decide) only [r176_0, r176_1, r176_4, r176_5, r176_6, r176_9, r176_11, r176_12, r176_13, r176_14, r176_15, r176_18, r176_21, r176_23, r176_24, r176_27, r176_30, r176_31, r176_34, r176_36, r176_37, r176_38, r176_39, r176_40, r176_41, r176_42, r176_43, r176_44, r176_45, r176_46, r176_49, r176_51, r176_52, r176_53, r176_54, r176_56, r176_57, r176_58, r176_59, r176_62, r176_63, r176_65, r176_66, r176_67, r176_68, r176_69, r176_70, r176_71, r176_72, r176_73, r176_75, r176_76, r176_77, r176_78, r176_81, r176_82, r176_85, r176_88, r176_89, r176_90, r176_93, r176_94, r176_96, r176_97, r176_98, r176_99, r176_100, r176_101, r176_102, r176_104, r176_105, r176_108, r176_110, r176_111, r176_112, r176_113, r176_115, r176_116, r176_118, r176_119, r176_120, r176_121, r176_122, r176_123, r176_124, r176_125, r176_126, r176_129, r176_130, r176_131, r176_132, r176_134, r176_135, r176_137, r176_138, r176_139, r176_141, r176_142, r176_143, r176_146, r176_147, r176_150, r176_151, r176_152, r176_153, r176_154, r176_155, r176_156, r176_157, r176_158, r176_161, r176_162, r176_164, r176_167, r176_168, r176_169, r176_170, r176_171, r176_172, r176_173, r176_174, r176_177, r176_178, r176_179, r176_182, r176_183, r176_186, r176_187, r176_188, r176_189, r176_192, r176_193, r176_194, r176_195, r176_198, r176_199, r176_202, r176_203, r176_206, r176_208, r176_209, r176_210, r176_211, r176_212, st_g0_0, st_g0_1, st_g0_2, st_g0_3, st_g0_4, st_p0_4, st_g0_5, st_p0_5, st_g0_6, st_p0_6, st_g0_7, st_p0_7, st_v0, st_g1_0, st_g1_1, st_g1_2, st_g1_3, st_p1_3, st_v1, st_g7_0, st_g7_1, st_p7_1, st_g7_2, st_p7_2, st_v7, st_i2, st_is2, st_i3, st_is3, st_i4, st_is4, st_i5, st_is5, st_i6, st_is6, st_l8, st_ls8, st_y2, st_y3, st_y4, st_y8, st_o100_0, st_o100_1, st_o100_2, st_o100_3, st_o100_4, st_o100_5, st_o100_6, st_o100_7, st_q100_7, st_o100_8, st_q100_8, st_w100, st_o110_0, st_o110_1, st_w110, st_o129_0, st_o129_1, st_q129_1, st_o129_2, st_q129_2, st_w129, st_o205_0, st_o205_1, st_q205_1, st_o205_2, st_o205_3, st_q205_3, st_o205_4, st_q205_4, st_o205_5, st_q205_5, st_o205_6, st_q205_6, st_o205_7, st_q205_7, st_o205_8, st_q205_8, st_o205_9, st_q205_9, st_w205, st_o235_0, st_o235_1, st_o235_2, st_o235_3, st_o235_4, st_o235_5, st_o235_6, st_o235_7, st_q235_7, st_o235_8, st_q235_8, st_o235_9, st_o235_10, st_q235_10, st_o235_11, st_q235_11, st_o235_12, st_q235_12, st_o235_13, st_q235_13, st_o235_14, st_q235_14, st_o235_15, st_q235_15, st_o235_16, st_q235_16, st_o235_17, st_q235_17, st_o235_18, st_q235_18, st_o235_19, st_o235_20, st_o235_21, st_q235_21, st_o235_22, st_q235_22, st_o235_23, st_o235_24, st_q235_24, st_w235, st_a204, st_as204, st_a206, st_as206, st_a216, st_as216, st_a236, st_as236, st_a237, st_as237, st_a238, st_as238, st_a239, st_as239, st_a240, st_as240, st_a241, st_as241, st_a242, st_as242, st_a243, st_as243, st_a244, st_as244, st_a245, st_as245, st_a246, st_as246, st_r130, st_r203, nx_in, nx_clamp, nx_i2n, nx_l2n, nx_add, nx_sub, nx_pred, nx_mul, nx_lt, nx_le, nx_eq, nx_shl, nx_shr, nx_and1, nx_andm, nx_m1, nx_or, nx_dr, nx_rem, nx_kC, nx_ift, nx_iff, mw_A, mw_sA, m1, m2, e12, upN_e, h1, h2, ↓nif_lt_t, ↓nif_lt_f, ↓nif_le_t, ↓nif_le_f, ↓nif_eq_t, ↓nif_eq_f, ↓nif_ne_t, ↓nif_ne_f, Nat.one_mul, List.cons_append, List.nil_append, List.append_nil, Option.toList, if_true, if_false, Bool.false_eq_true, and_true, true_and, and_self]
  · refine ⟨upN (upN A 1 (r 0 5 + 1)) 6 (3 - r 0 4), P, H, gv, by rw [if_neg (fun z => h1 z.1)]; exact mrel_6 hm1, fun i hi => by rw [upN_n (by omega), upN_n (by omega)], ?_⟩
    rw [r176_163]
    simp (config := { decide := false, maxSteps := 1000000 }) (disch := first | assumption | exact nlg_i _ | exact nlg_r _ | exact nlg_n | omega | decide) only [r176_0, r176_1, r176_4, r176_5, r176_6, r176_9, r176_11, r176_12, r176_13, r176_14, r176_15, r176_18, r176_21, r176_23, r176_24, r176_27, r176_30, r176_31, r176_34, r176_36, r176_37, r176_38, r176_39, r176_40, r176_41, r176_42, r176_43, r176_44, r176_45, r176_46, r176_49, r176_51, r176_52, r176_53, r176_54, r176_56, r176_57, r176_58, r176_59, r176_62, r176_63, r176_65, r176_66, r176_67, r176_68, r176_69, r176_70, r176_71, r176_72, r176_73, r176_75, r176_76, r176_77, r176_78, r176_81, r176_82, r176_85, r176_88, r176_89, r176_90, r176_93, r176_94, r176_96, r176_97, r176_98, r176_99, r176_100, r176_101, r176_102, r176_104, r176_105, r176_108, r176_110, r176_111, r176_112, r176_113, r176_115, r176_116, r176_118, r176_119, r176_120, r176_121, r176_122, r176_123, r176_124, r176_125, r176_126, r176_129, r176_130, r176_131, r176_132, r176_134, r176_135, r176_137, r176_138, r176_139, r176_141, r176_142, r176_143, r176_146, r176_147, r176_150, r176_151, r176_152, r176_153, r176_154, r176_155, r176_156, r176_157, r176_158, r176_161, r176_162, r176_164, r176_167, r176_168, r176_169, r176_170, r176_171, r176_172, r176_173, r176_174, r176_177, r176_178, r176_179, r176_182, r176_183, r176_186, r176_187, r176_188, r176_189, r176_192, r176_193, r176_194, r176_195, r176_198, r176_199, r176_202, r176_203, r176_206, r176_208, r176_209, r176_210, r176_211, r176_212, st_g0_0, st_g0_1, st_g0_2, st_g0_3, st_g0_4, st_p0_4, st_g0_5, st_p0_5, st_g0_6, st_p0_6, st_g0_7, st_p0_7, st_v0, st_g1_0, st_g1_1, st_g1_2, st_g1_3, st_p1_3, st_v1, st_g7_0, st_g7_1, st_p7_1, st_g7_2, st_p7_2, st_v7, st_i2, st_is2, st_i3, st_is3, st_i4, st_is4, st_i5, st_is5, st_i6, st_is6, st_l8, st_ls8, st_y2, st_y3, st_y4, st_y8, st_o100_0, st_o100_1, st_o100_2, st_o100_3, st_o100_4, st_o100_5, st_o100_6, st_o100_7, st_q100_7, st_o100_8, st_q100_8, st_w100, st_o110_0, st_o110_1, st_w110, st_o129_0, st_o129_1, st_q129_1, st_o129_2, st_q129_2, st_w129, st_o205_0, st_o205_1, st_q205_1, st_o205_2, st_o205_3, st_q205_3, st_o205_4, st_q205_4, st_o205_5, st_q205_5, st_o205_6, st_q205_6, st_o205_7, st_q205_7, st_o205_8, st_q205_8, st_o205_9, st_q205_9, st_w205, st_o235_0, st_o235_1, st_o235_2, st_o235_3, st_o235_4, st_o235_5, st_o235_6, st_o235_7, st_q235_7, st_o235_8, st_q235_8, st_o235_9, st_o235_10, st_q235_10, st_o235_11, st_q235_11, st_o235_12, st_q235_12, st_o235_13, st_q235_13, st_o235_14, st_q235_14, st_o235_15, st_q235_15, st_o235_16, st_q235_16, st_o235_17, st_q235_17, st_o235_18, st_q235_18, st_o235_19, st_o235_20, st_o235_21, st_q235_21, st_o235_22, st_q235_22, st_o235_23, st_o235_24, st_q235_24, st_w235, st_a204, st_as204, st_a206, st_as206, st_a216, st_as216, st_a236, st_as236, st_a237, st_as237, st_a238, st_as238, st_a239, st_as239, st_a240, st_as240, st_a241, st_as241, st_a242, st_as242, st_a243, st_as243, st_a244, st_as244, st_a245, st_as245, st_a246, st_as246, st_r130, st_r203, nx_in, nx_clamp, nx_i2n, nx_l2n, nx_add, nx_sub, nx_pred, nx_mul, nx_lt, nx_le, nx_eq, nx_shl, nx_shr, nx_and1, nx_andm, nx_m1, nx_or, nx_dr, nx_rem, nx_kC, nx_ift, nx_iff, mw_A, mw_sA, m1, m2, e12, upN_e, h1, ↓nif_lt_t, ↓nif_lt_f, ↓nif_le_t, ↓nif_le_f, ↓nif_eq_t, ↓nif_eq_f, ↓nif_ne_t, ↓nif_ne_f, Nat.one_mul, List.cons_append, List.nil_append, List.append_nil, Option.toList, if_true, if_false, Bool.false_eq_true, and_true, true_and, and_self]
theorem zdr : ∀ h, h < 8 → ∀ p, p < 256 → p < 2 ^ h → ∀ q, q < 2 → 2 * 2 ^ h ||| p ||| q * 2 ^ h = stn (h + 1) (p + q * 2 ^ h) := by decide +kernel
theorem zro : ∀ h, h < 9 → ∀ p, p < 256 → p < 2 ^ h → 1 ≤ h → 2 ^ h ||| (p % 2 ^ (h - 1)) * 2 ^ 1 ||| p / 2 ^ (h - 1) = stn h (p % 2 ^ (h - 1) * 2 + p / 2 ^ (h - 1)) := by decide +kernel
theorem stn_mod {h p : Nat} (hp : p < 2 ^ h) : stn h p % 2 ^ h = p := by
  unfold stn
  rw [Nat.add_mod_left, Nat.mod_eq_of_lt hp]
theorem stn_mod1 {h p : Nat} (h1 : 1 ≤ h) : stn h p % 2 ^ (h - 1) = p % 2 ^ (h - 1) := by
  unfold stn
  rw [show 2 ^ h = 2 ^ (h - 1) * 2 by rw [← Nat.pow_succ]; congr 1; omega, Nat.add_comm, Nat.add_mul_mod_self_left]
theorem mrel_stk {b : xB} (hn : r 1 3 ≤ 12) (hm : mrel A r) (hc : c < r 1 3) {h p : Nat} : mrel (upN A (21 + c) (stn h p)) (upR (upR r 4 (upN (r 4) c p)) 3 (upN (r 3) c h)) := by
  have h := hm.1
  refine ⟨⟨?_, ?_, ?_, ?_, ?_, ?_, ?_, ?_, ?_⟩, fun d hd => ?_, fun d hd hd2 => ?_⟩
  · rw [upN_n (by omega)]; exact h.1
  · rw [upN_n (by omega)]; exact h.2.1
  · rw [upN_n (by omega)]; exact h.2.2.1
  · rw [upN_n (by omega)]; exact h.2.2.2.1
  · rw [upN_n (by omega)]; exact h.2.2.2.2.1
  · rw [upN_n (by omega)]; exact h.2.2.2.2.2.1
  · rw [upN_n (by omega)]; exact h.2.2.2.2.2.2.1
  · rw [upN_n (by omega)]; exact h.2.2.2.2.2.2.2.1
  · rw [upN_n (by omega)]; exact h.2.2.2.2.2.2.2.2
  · have hd' : d < r 1 3 := hd
    rw [upN_n (by omega)]
    refine ⟨(hm.2.1 d hd').1, ?_⟩
    show _ = stn (upN (r 3) c _ d) (upN (r 4) c _ d)
    by_cases hdc : d = c
    · rw [hdc, upN_e, upN_e, upN_e]
    · rw [upN_n (by omega), upN_n hdc, upN_n hdc]
      exact (hm.2.1 d hd').2
  · have hd' : r 1 3 ≤ d := hd
    rw [upN_n (by omega), upN_n (by omega)]
    exact hm.2.2 d hd' hd2
theorem s176 (hm20 : m < 2 ^ 20) (h : gd m r) (hm : mrel A r) (hc : isC (r 1 3) code) (h0 : rule r code = 0) : ∃ A' P' H' ls' gv', mrel A' (mvR r code) ∧ (∀ i, 33 ≤ i → A' i = A i) ∧ (code < 2000 → ls' = nI (mvS r code)) ∧ ev xs L 176 0 [.ref 235, .int (nI code), .null, .null, .null, .null] [] (hS (mw S A B C P H ls gv) t) = some (.inl none, hS (mw S A' B C P' H' ls' gv') t) := by
  have hn := h.1.1
  have hq := mv_gp h hc h0
  obtain ⟨hg, hl, hnr, hp, h5⟩ := h
  have ht := hg.2.2.2.1
  have m6 := hm.1.2.2.2.2.2.2.1
  have hcl : code < 4000 := by unfold isC at hc; omega
  have e0 := s175 (xs := xs) (L := L) (code := code) (by omega) (hS (mw S A B C P H ls gv) t)
  have hstk : ∀ x, x < r 1 3 → A (21 + x) = stn (r 3 x) (r 4 x) := fun x hx => (hm.2.1 x hx).2
  unfold mvR
  by_cases h3 : 3000 ≤ code
  · rw [if_pos h3] at hq e0 ⊢
    have hr := rule_d h0 h3
    generalize hcc : code - 3000 = c at hr hq e0 ⊢
    have hcn : c < r 1 3 := by unfold isC at hc; omega
    have qc := hg.2.1 c (by omega)
    have e1 := s131w (xs := xs) (L := L) (S := S) (t := t) (A := A) (B := B) (C := C) (P := P) (H := H) (ls := ls) (gv := gv) (c := c) (by omega)
    rw [hstk c hcn] at e1
    have e2 := s132 (xs := xs) (L := L) (h := r 3 c) (p := r 4 c) (by omega) qc.2.2 (hS (mw S A B C P H ls gv) t)
    have b1 := stn_20 (h := r 3 c) (p := r 4 c) (by omega) qc.2.2
    have p8 := z8 qc.2.1 qc.2.2
    have b2 := z512 (h := r 3 c + 1) (p := r 4 c + (r 0 4 - 1) * 2 ^ r 3 c) (by omega) (zmt qc.2.2 (by omega))
    have z1 := zdr (r 3 c) (by omega) (r 4 c) p8 qc.2.2 (r 0 4 - 1) (by omega)
    have z2 := stn_mod qc.2.2
    have rl := res_le hg
    have hrow : A (7 + r 0 4 - 1) = r 5 (r 0 4) := by
      rcases (show r 0 4 = 1 ∨ r 0 4 = 2 by omega) with z | z
      · rw [z]; exact hm.1.2.2.2.2.2.2.2.1
      · rw [z]; exact hm.1.2.2.2.2.2.2.2.2
    have hmA : mrel (upN A (7 + r 0 4 - 1) (r 5 (r 0 4) - 1)) (up2 r 5 (r 0 4) (r 5 (r 0 4) - 1)) := by
      rcases (show r 0 4 = 1 ∨ r 0 4 = 2 by omega) with z | z
      · rw [z]; exact mrel_7 hm
      · rw [z]; exact mrel_8 hm
    have hmB : mrel (upN (upN A (7 + r 0 4 - 1) (r 5 (r 0 4) - 1)) (21 + c) (stn (r 3 c + 1) (r 4 c + (r 0 4 - 1) * 2 ^ r 3 c))) (drR r c) := mrel_stk (b := (r 3, r 4)) (r := up2 r 5 (r 0 4) (r 5 (r 0 4) - 1)) hn.2 hmA hcn
    have e3 := fun (P H : Nat → Nat) => s131w (xs := xs) (L := L) (S := S) (t := t) (A := upN A (7 + r 0 4 - 1) (r 5 (r 0 4) - 1)) (B := B) (C := C) (P := P) (H := H) (ls := ls) (gv := gv) (c := c) (by omega)
    have hu : upN A (7 + r 0 4 - 1) (r 5 (r 0 4) - 1) (21 + c) = stn (r 3 c) (r 4 c) := by rw [upN_n (by omega)]; exact hstk c hcn
    rw [hu] at e3
    obtain ⟨A', P', H', gv', a1, a2, a3⟩ := s176t (xs := xs) (L := L) (S := S) (t := t) (B := B) (C := C) (P := P) (H := H) (ls := ls) (gv := gv) (x1 := .int (nI code)) (x2 := .int (nI c)) (x4 := .int (nI (r 3 c))) (x5 := .null) hq.1 hq.2.1 hmB (by have := hq.2.2.2.2; omega)
    rw [show drR r c 0 4 = r 0 4 from rfl] at a3
    refine ⟨A', P', H', ls, gv', a1, fun i hi => by rw [a2 i hi, upN_n (by omega), upN_n (by omega)], fun z => by omega, ?_⟩
    simp (config := { decide := false, maxSteps := 1000000 }) (disch := first | assumption | exact nlg_i _ | exact nlg_r _ | exact nlg_n | omega | decide) only [r176_0, r176_1, r176_4, r176_5, r176_6, r176_9, r176_11, r176_12, r176_13, r176_14, r176_15, r176_18, r176_21, r176_23, r176_24, r176_27, r176_30, r176_31, r176_34, r176_36, r176_37, r176_38, r176_39, r176_40, r176_41, r176_42, r176_43, r176_44, r176_45, r176_46, r176_49, r176_51, r176_52, r176_53, r176_54, r176_56, r176_57, r176_58, r176_59, r176_62, r176_63, r176_65, r176_66, r176_67, r176_68, r176_69, r176_70, r176_71, r176_72, r176_73, r176_75, r176_76, r176_77, r176_78, r176_81, r176_82, r176_85, r176_88, r176_89, r176_90, r176_93, r176_94, r176_96, r176_97, r176_98, r176_99, r176_100, r176_101, r176_102, r176_104, r176_105, r176_108, r176_110, r176_111, r176_112, r176_113, r176_115, r176_116, r176_118, r176_119, r176_120, r176_121, r176_122, r176_123, r176_124, r176_125, r176_126, r176_129, r176_130, r176_131, r176_132, r176_134, r176_135, r176_137, r176_138, r176_139, r176_141, r176_142, r176_143, r176_146, r176_147, r176_150, r176_151, r176_152, r176_153, r176_154, r176_155, r176_156, r176_157, r176_158, r176_161, r176_162, r176_164, r176_167, r176_168, r176_169, r176_170, r176_171, r176_172, r176_173, r176_174, r176_177, r176_178, r176_179, r176_182, r176_183, r176_186, r176_187, r176_188, r176_189, r176_192, r176_193, r176_194, r176_195, r176_198, r176_199, r176_202, r176_203, r176_206, r176_208, r176_209, r176_210, r176_211, r176_212, st_g0_0, st_g0_1, st_g0_2, st_g0_3, st_g0_4, st_p0_4, st_g0_5, st_p0_5, st_g0_6, st_p0_6, st_g0_7, st_p0_7, st_v0, st_g1_0, st_g1_1, st_g1_2, st_g1_3, st_p1_3, st_v1, st_g7_0, st_g7_1, st_p7_1, st_g7_2, st_p7_2, st_v7, st_i2, st_is2, st_i3, st_is3, st_i4, st_is4, st_i5, st_is5, st_i6, st_is6, st_l8, st_ls8, st_y2, st_y3, st_y4, st_y8, st_o100_0, st_o100_1, st_o100_2, st_o100_3, st_o100_4, st_o100_5, st_o100_6, st_o100_7, st_q100_7, st_o100_8, st_q100_8, st_w100, st_o110_0, st_o110_1, st_w110, st_o129_0, st_o129_1, st_q129_1, st_o129_2, st_q129_2, st_w129, st_o205_0, st_o205_1, st_q205_1, st_o205_2, st_o205_3, st_q205_3, st_o205_4, st_q205_4, st_o205_5, st_q205_5, st_o205_6, st_q205_6, st_o205_7, st_q205_7, st_o205_8, st_q205_8, st_o205_9, st_q205_9, st_w205, st_o235_0, st_o235_1, st_o235_2, st_o235_3, st_o235_4, st_o235_5, st_o235_6, st_o235_7, st_q235_7, st_o235_8, st_q235_8, st_o235_9, st_o235_10, st_q235_10, st_o235_11, st_q235_11, st_o235_12, st_q235_12, st_o235_13, st_q235_13, st_o235_14, st_q235_14, st_o235_15, st_q235_15, st_o235_16, st_q235_16, st_o235_17, st_q235_17, st_o235_18, st_q235_18, st_o235_19, st_o235_20, st_o235_21, st_q235_21, st_o235_22, st_q235_22, st_o235_23, st_o235_24, st_q235_24, st_w235, st_a204, st_as204, st_a206, st_as206, st_a216, st_as216, st_a236, st_as236, st_a237, st_as237, st_a238, st_as238, st_a239, st_as239, st_a240, st_as240, st_a241, st_as241, st_a242, st_as242, st_a243, st_as243, st_a244, st_as244, st_a245, st_as245, st_a246, st_as246, st_r130, st_r203, nx_in, nx_clamp, nx_i2n, nx_l2n, nx_add, nx_sub, nx_pred, nx_mul, nx_lt, nx_le, nx_eq, nx_shl, nx_shr, nx_and1, nx_andm, nx_m1, nx_or, nx_dr, nx_rem, nx_kC, nx_ift, nx_iff, mw_A, mw_sA, m6, e0, e1, e2, e3, hrow, z2, z1, a3, ↓nif_lt_t, ↓nif_lt_f, ↓nif_le_t, ↓nif_le_f, ↓nif_eq_t, ↓nif_eq_f, ↓nif_ne_t, ↓nif_ne_f, Nat.one_mul, List.cons_append, List.nil_append, List.append_nil, Option.toList, if_true, if_false, Bool.false_eq_true, and_true, true_and, and_self]
  · rw [if_neg h3] at hq e0 ⊢
    by_cases h2 : 2000 ≤ code
    · rw [if_pos h2] at hq e0 ⊢
      have hr := rule_r h0 h3 h2
      generalize hcc : code - 2000 = c at hr hq e0 ⊢
      have hcn : c < r 1 3 := by unfold isC at hc; omega
      have qc := hg.2.1 c (by omega)
      have e1 := s131w (xs := xs) (L := L) (S := S) (t := t) (A := A) (B := B) (C := C) (P := P) (H := H) (ls := ls) (gv := gv) (c := c) (by omega)
      rw [hstk c hcn] at e1
      have e2 := s132 (xs := xs) (L := L) (h := r 3 c) (p := r 4 c) (by omega) qc.2.2 (hS (mw S A B C P H ls gv) t)
      have b1 := stn_20 (h := r 3 c) (p := r 4 c) (by omega) qc.2.2
      have p8 := z8 qc.2.1 qc.2.2
      have up1 : r 4 c / 2 ^ (r 3 c - 1) = r 0 4 - 1 := by
        have h9 := hr.2
        unfold ctl at h9
        rw [if_neg (by omega)] at h9
        have h10 : r 4 c / 2 ^ (r 3 c - 1) < 2 ^ 1 := by
          rw [Nat.div_lt_iff_lt_mul (Nat.two_pow_pos _), ← Nat.pow_add, show 1 + (r 3 c - 1) = r 3 c by omega]
          exact qc.2.2
        generalize r 4 c / 2 ^ (r 3 c - 1) = x at h9 h10 ⊢
        omega
      have z1 := zro (r 3 c) (by omega) (r 4 c) p8 qc.2.2 (by omega)
      rw [up1] at z1
      have z2 := stn_mod1 (p := r 4 c) (h := r 3 c) (by omega)
      have b3 : r 4 c % 2 ^ (r 3 c - 1) ≤ r 4 c := Nat.mod_le _ _
      have hrp := (ro_gp ⟨hg, hl, hnr, hp, h5⟩ hcn (by omega)).1.2.1 c (by omega)
      have b4 := z512 (h := r 3 c) (p := r 4 c % 2 ^ (r 3 c - 1) * 2 + r 4 c / 2 ^ (r 3 c - 1)) qc.2.1 (by
        have := hrp.2.2
        have e9 : roR r c 4 c = r 4 c % 2 ^ (r 3 c - 1) * 2 + r 4 c / 2 ^ (r 3 c - 1) := upN_e _ _ _
        rw [e9] at this
        exact this)
      rw [up1] at b4
      have hmB : mrel (upN A (21 + c) (stn (r 3 c) (r 4 c % 2 ^ (r 3 c - 1) * 2 + (r 0 4 - 1)))) (roR r c) := by
        have h9 := mrel_stk (b := (r 3, r 4)) (h := r 3 c) (p := r 4 c % 2 ^ (r 3 c - 1) * 2 + (r 0 4 - 1)) hn.2 hm hcn
        have h10 : upN (r 3) c (r 3 c) = r 3 := by
          funext x
          unfold upN
          split
          · next z => rw [z]
          · rfl
        rw [h10] at h9
        have h11 : upR (upR r 4 (upN (r 4) c (r 4 c % 2 ^ (r 3 c - 1) * 2 + (r 0 4 - 1)))) 3 (r 3) = roR r c := by
          rw [← up1]
          exact upR_self (roR r c) 3
        rw [h11] at h9
        exact h9
      obtain ⟨A', P', H', gv', a1, a2, a3⟩ := s176t (xs := xs) (L := L) (S := S) (t := t) (B := B) (C := C) (P := P) (H := H) (ls := ls) (gv := gv) (x1 := .int (nI code)) (x2 := .int (nI c)) (x4 := .int (nI (r 3 c))) (x5 := .int (nI (r 4 c % 2 ^ (r 3 c - 1)))) hq.1 hq.2.1 hmB (by have := hq.2.2.2.2; omega)
      rw [show roR r c 0 4 = r 0 4 from rfl] at a3
      refine ⟨A', P', H', ls, gv', a1, fun i hi => by rw [a2 i hi, upN_n (by omega)], fun z => by omega, ?_⟩
      simp (config := { decide := false, maxSteps := 1000000 }) (disch := first | assumption | exact nlg_i _ | exact nlg_r _ | exact nlg_n | omega | decide) only [r176_0, r176_1, r176_4, r176_5, r176_6, r176_9, r176_11, r176_12, r176_13, r176_14, r176_15, r176_18, r176_21, r176_23, r176_24, r176_27, r176_30, r176_31, r176_34, r176_36, r176_37, r176_38, r176_39, r176_40, r176_41, r176_42, r176_43, r176_44, r176_45, r176_46, r176_49, r176_51, r176_52, r176_53, r176_54, r176_56, r176_57, r176_58, r176_59, r176_62, r176_63, r176_65, r176_66, r176_67, r176_68, r176_69, r176_70, r176_71, r176_72, r176_73, r176_75, r176_76, r176_77, r176_78, r176_81, r176_82, r176_85, r176_88, r176_89, r176_90, r176_93, r176_94, r176_96, r176_97, r176_98, r176_99, r176_100, r176_101, r176_102, r176_104, r176_105, r176_108, r176_110, r176_111, r176_112, r176_113, r176_115, r176_116, r176_118, r176_119, r176_120, r176_121, r176_122, r176_123, r176_124, r176_125, r176_126, r176_129, r176_130, r176_131, r176_132, r176_134, r176_135, r176_137, r176_138, r176_139, r176_141, r176_142, r176_143, r176_146, r176_147, r176_150, r176_151, r176_152, r176_153, r176_154, r176_155, r176_156, r176_157, r176_158, r176_161, r176_162, r176_164, r176_167, r176_168, r176_169, r176_170, r176_171, r176_172, r176_173, r176_174, r176_177, r176_178, r176_179, r176_182, r176_183, r176_186, r176_187, r176_188, r176_189, r176_192, r176_193, r176_194, r176_195, r176_198, r176_199, r176_202, r176_203, r176_206, r176_208, r176_209, r176_210, r176_211, r176_212, st_g0_0, st_g0_1, st_g0_2, st_g0_3, st_g0_4, st_p0_4, st_g0_5, st_p0_5, st_g0_6, st_p0_6, st_g0_7, st_p0_7, st_v0, st_g1_0, st_g1_1, st_g1_2, st_g1_3, st_p1_3, st_v1, st_g7_0, st_g7_1, st_p7_1, st_g7_2, st_p7_2, st_v7, st_i2, st_is2, st_i3, st_is3, st_i4, st_is4, st_i5, st_is5, st_i6, st_is6, st_l8, st_ls8, st_y2, st_y3, st_y4, st_y8, st_o100_0, st_o100_1, st_o100_2, st_o100_3, st_o100_4, st_o100_5, st_o100_6, st_o100_7, st_q100_7, st_o100_8, st_q100_8, st_w100, st_o110_0, st_o110_1, st_w110, st_o129_0, st_o129_1, st_q129_1, st_o129_2, st_q129_2, st_w129, st_o205_0, st_o205_1, st_q205_1, st_o205_2, st_o205_3, st_q205_3, st_o205_4, st_q205_4, st_o205_5, st_q205_5, st_o205_6, st_q205_6, st_o205_7, st_q205_7, st_o205_8, st_q205_8, st_o205_9, st_q205_9, st_w205, st_o235_0, st_o235_1, st_o235_2, st_o235_3, st_o235_4, st_o235_5, st_o235_6, st_o235_7, st_q235_7, st_o235_8, st_q235_8, st_o235_9, st_o235_10, st_q235_10, st_o235_11, st_q235_11, st_o235_12, st_q235_12, st_o235_13, st_q235_13, st_o235_14, st_q235_14, st_o235_15, st_q235_15, st_o235_16, st_q235_16, st_o235_17, st_q235_17, st_o235_18, st_q235_18, st_o235_19, st_o235_20, st_o235_21, st_q235_21, st_o235_22, st_q235_22, st_o235_23, st_o235_24, st_q235_24, st_w235, st_a204, st_as204, st_a206, st_as206, st_a216, st_as216, st_a236, st_as236, st_a237, st_as237, st_a238, st_as238, st_a239, st_as239, st_a240, st_as240, st_a241, st_as241, st_a242, st_as242, st_a243, st_as243, st_a244, st_as244, st_a245, st_as245, st_a246, st_as246, st_r130, st_r203, nx_in, nx_clamp, nx_i2n, nx_l2n, nx_add, nx_sub, nx_pred, nx_mul, nx_lt, nx_le, nx_eq, nx_shl, nx_shr, nx_and1, nx_andm, nx_m1, nx_or, nx_dr, nx_rem, nx_kC, nx_ift, nx_iff, mw_A, mw_sA, m6, e0, e1, e2, z2, z1, a3, ↓nif_lt_t, ↓nif_lt_f, ↓nif_le_t, ↓nif_le_f, ↓nif_eq_t, ↓nif_eq_f, ↓nif_ne_t, ↓nif_ne_f, Nat.one_mul, List.cons_append, List.nil_append, List.append_nil, Option.toList, if_true, if_false, Bool.false_eq_true, and_true, true_and, and_self]
    · rw [if_neg h2] at hq e0 ⊢
      have hr := rule_c h0 h2
      have q1 := isC_c hn.2 hc h2
      have hz2 : ¬ nI 10 = 0 := by decide
      have q4 : code - code / 10 * 10 = code % 10 := by omega
      have q5 : code / 10 - code / 10 / 10 * 10 = code / 10 % 10 := by omega
      have hmS : mvS r code = stlR r (code / 100) (mvT r code) (code % 10) := if_neg h2
      unfold mvT at hq hmS ⊢
      generalize hcc : code / 100 = c at hr hq e0 q1 hmS ⊢
      generalize hdd : code / 10 % 10 = d at hq q1 q5 hmS ⊢
      generalize hkk : code % 10 = k at hr hq q1 q4 hmS ⊢
      have hcn : c < r 1 3 := q1.1
      have qc := hg.2.1 c (by omega)
      have e1 := s131w (xs := xs) (L := L) (S := S) (t := t) (A := A) (B := B) (C := C) (P := P) (H := H) (ls := ls) (gv := gv) (c := c) (by omega)
      rw [hstk c hcn] at e1
      have e2 := s132 (xs := xs) (L := L) (h := r 3 c) (p := r 4 c) (by omega) qc.2.2 (hS (mw S A B C P H ls gv) t)
      obtain ⟨P1, H1, e3⟩ := s177 (xs := xs) (L := L) (S := S) (t := t) (A := A) (B := B) (C := C) (P := P) (H := H) (ls := ls) (gv := gv) (d := d) (k := k) hg hl hm hcn q1.2.1 ⟨q1.2.2.1, q1.2.2.2.1⟩ hr.1
      rw [hr.2] at e3
      generalize hTT : tgt (r 1 3) c d k = T at hq e3 hmS ⊢
      have hs := (stl_le (own := ctl (r 3 c) (r 4 c)) (rob := ctl (r 3 T) (r 4 T)) (gd := grd (r 3 T) (r 4 T)) (k := k)).1
      rw [show stl (ctl (r 3 c) (r 4 c)) (ctl (r 3 T) (r 4 T)) (grd (r 3 T) (r 4 T)) k = stlR r c T k from rfl] at hs
      have hrow : A (4 + r 0 4 - 1) = r 6 (r 0 4) := by
        rcases (show r 0 4 = 1 ∨ r 0 4 = 2 by omega) with z | z
        · rw [z]; exact hm.1.2.2.2.2.1
        · rw [z]; exact hm.1.2.2.2.2.2.1
      have hrow2 : astk A (crB r c T k).1 (r 1 3) (4 + r 0 4 - 1) = r 6 (r 0 4) := by rw [astk_o (by omega)]; exact hrow
      have h6 : r 6 (r 0 4) ≤ 4 * m := by
        rcases (show r 0 4 = 1 ∨ r 0 4 = 2 by omega) with z | z
        · rw [z]; exact hp.1
        · rw [z]; exact hp.2
      have hmA : mrel (upN A (4 + r 0 4 - 1) (r 6 (r 0 4) + stlR r c T k)) (up2 r 6 (r 0 4) (r 6 (r 0 4) + stlR r c T k)) := by
        rcases (show r 0 4 = 1 ∨ r 0 4 = 2 by omega) with z | z
        · rw [z]; exact mrel_4 hm
        · rw [z]; exact mrel_5 hm
      have hmB : mrel (upN (astk A (crB r c T k).1 (r 1 3)) (4 + r 0 4 - 1) (r 6 (r 0 4) + stlR r c T k)) (crR r c T k) := by
        have h9 := mrel_bd (r := up2 r 6 (r 0 4) (r 6 (r 0 4) + stlR r c T k)) (b := (crB r c T k).1) hn.2 hmA
        have h10 : astk (upN A (4 + r 0 4 - 1) (r 6 (r 0 4) + stlR r c T k)) (crB r c T k).1 (r 1 3) = upN (astk A (crB r c T k).1 (r 1 3)) (4 + r 0 4 - 1) (r 6 (r 0 4) + stlR r c T k) := by
          funext i
          by_cases hi : i = 4 + r 0 4 - 1
          · rw [hi, upN_e, astk_o (by omega), upN_e]
          · rw [upN_n hi]
            unfold astk
            rw [upN_n hi]
        rw [← h10]
        exact h9
      obtain ⟨A', P', H', gv', a1, a2, a3⟩ := s176t (xs := xs) (L := L) (S := S) (t := t) (B := B) (C := C) (P := P1) (H := H1) (ls := nI (stlR r c T k)) (gv := nI (crB r c T k).2) (x1 := .int (nI code)) (x2 := .int (nI c)) (x4 := .int (nI (r 3 c))) (x5 := .null) hq.1 hq.2.1 hmB (by have := hq.2.2.2.2; omega)
      rw [show crR r c T k 0 4 = r 0 4 from rfl] at a3
      refine ⟨A', P', H', nI (stlR r c T k), gv', a1, fun i hi => by rw [a2 i hi, upN_n (by omega), astk_o (by omega)], fun _ => by rw [hmS], ?_⟩
      simp (config := { decide := false, maxSteps := 1000000 }) (disch := first | assumption | exact nlg_i _ | exact nlg_r _ | exact nlg_n | omega | decide) only [r176_0, r176_1, r176_4, r176_5, r176_6, r176_9, r176_11, r176_12, r176_13, r176_14, r176_15, r176_18, r176_21, r176_23, r176_24, r176_27, r176_30, r176_31, r176_34, r176_36, r176_37, r176_38, r176_39, r176_40, r176_41, r176_42, r176_43, r176_44, r176_45, r176_46, r176_49, r176_51, r176_52, r176_53, r176_54, r176_56, r176_57, r176_58, r176_59, r176_62, r176_63, r176_65, r176_66, r176_67, r176_68, r176_69, r176_70, r176_71, r176_72, r176_73, r176_75, r176_76, r176_77, r176_78, r176_81, r176_82, r176_85, r176_88, r176_89, r176_90, r176_93, r176_94, r176_96, r176_97, r176_98, r176_99, r176_100, r176_101, r176_102, r176_104, r176_105, r176_108, r176_110, r176_111, r176_112, r176_113, r176_115, r176_116, r176_118, r176_119, r176_120, r176_121, r176_122, r176_123, r176_124, r176_125, r176_126, r176_129, r176_130, r176_131, r176_132, r176_134, r176_135, r176_137, r176_138, r176_139, r176_141, r176_142, r176_143, r176_146, r176_147, r176_150, r176_151, r176_152, r176_153, r176_154, r176_155, r176_156, r176_157, r176_158, r176_161, r176_162, r176_164, r176_167, r176_168, r176_169, r176_170, r176_171, r176_172, r176_173, r176_174, r176_177, r176_178, r176_179, r176_182, r176_183, r176_186, r176_187, r176_188, r176_189, r176_192, r176_193, r176_194, r176_195, r176_198, r176_199, r176_202, r176_203, r176_206, r176_208, r176_209, r176_210, r176_211, r176_212, st_g0_0, st_g0_1, st_g0_2, st_g0_3, st_g0_4, st_p0_4, st_g0_5, st_p0_5, st_g0_6, st_p0_6, st_g0_7, st_p0_7, st_v0, st_g1_0, st_g1_1, st_g1_2, st_g1_3, st_p1_3, st_v1, st_g7_0, st_g7_1, st_p7_1, st_g7_2, st_p7_2, st_v7, st_i2, st_is2, st_i3, st_is3, st_i4, st_is4, st_i5, st_is5, st_i6, st_is6, st_l8, st_ls8, st_y2, st_y3, st_y4, st_y8, st_o100_0, st_o100_1, st_o100_2, st_o100_3, st_o100_4, st_o100_5, st_o100_6, st_o100_7, st_q100_7, st_o100_8, st_q100_8, st_w100, st_o110_0, st_o110_1, st_w110, st_o129_0, st_o129_1, st_q129_1, st_o129_2, st_q129_2, st_w129, st_o205_0, st_o205_1, st_q205_1, st_o205_2, st_o205_3, st_q205_3, st_o205_4, st_q205_4, st_o205_5, st_q205_5, st_o205_6, st_q205_6, st_o205_7, st_q205_7, st_o205_8, st_q205_8, st_o205_9, st_q205_9, st_w205, st_o235_0, st_o235_1, st_o235_2, st_o235_3, st_o235_4, st_o235_5, st_o235_6, st_o235_7, st_q235_7, st_o235_8, st_q235_8, st_o235_9, st_o235_10, st_q235_10, st_o235_11, st_q235_11, st_o235_12, st_q235_12, st_o235_13, st_q235_13, st_o235_14, st_q235_14, st_o235_15, st_q235_15, st_o235_16, st_q235_16, st_o235_17, st_q235_17, st_o235_18, st_q235_18, st_o235_19, st_o235_20, st_o235_21, st_q235_21, st_o235_22, st_q235_22, st_o235_23, st_o235_24, st_q235_24, st_w235, st_a204, st_as204, st_a206, st_as206, st_a216, st_as216, st_a236, st_as236, st_a237, st_as237, st_a238, st_as238, st_a239, st_as239, st_a240, st_as240, st_a241, st_as241, st_a242, st_as242, st_a243, st_as243, st_a244, st_as244, st_a245, st_as245, st_a246, st_as246, st_r130, st_r203, nx_in, nx_clamp, nx_i2n, nx_l2n, nx_add, nx_sub, nx_pred, nx_mul, nx_lt, nx_le, nx_eq, nx_shl, nx_shr, nx_and1, nx_andm, nx_m1, nx_or, nx_dr, nx_rem, nx_kC, nx_ift, nx_iff, mw_A, mw_sA, mw_ls, m6, e0, e1, e2, q4, q5, hkk, hdd, e3, hrow2, a3, ↓nif_lt_t, ↓nif_lt_f, ↓nif_le_t, ↓nif_le_f, ↓nif_eq_t, ↓nif_eq_f, ↓nif_ne_t, ↓nif_ne_f, Nat.one_mul, List.cons_append, List.nil_append, List.append_nil, Option.toList, if_true, if_false, Bool.false_eq_true, and_true, true_and, and_self]
end XMK
