section XCP
variable {xs : Nat → Int32} {L : Nat} {S : xS} {t : Nat × Nat × Nat} {n s : Nat} {T : Nat → Nat} {r : xG} {e f : Nat → Int32} {A : Nat → Nat}
def fl (e : Nat → Int32) (c : Int32) (p : Nat) : Nat → Int32 := upI (upI e 3 c) 4 (nI p)
theorem s25 (p : Nat) (c : Int32) : ev xs L 25 0 [.ref 205, .int (nI p), .int c] [] (hS (cs S e r) t) = some (.inl (some (.int (nI 0))), hS (cs S (fl e c p) r) t) := by
  simp (config := { decide := false, maxSteps := 1000000 }) (disch := first | assumption | exact nlg_i _ | exact nlg_r _ | exact nlg_n | omega | decide) only [r25_0, r25_1, r25_2, r25_5, r25_6, r25_7, r25_10, r25_11, st_g0_0, st_g0_1, st_g0_2, st_g0_3, st_g0_4, st_p0_4, st_g0_5, st_p0_5, st_g0_6, st_p0_6, st_g0_7, st_p0_7, st_v0, st_g1_0, st_g1_1, st_g1_2, st_g1_3, st_p1_3, st_v1, st_g7_0, st_g7_1, st_p7_1, st_g7_2, st_p7_2, st_v7, st_i2, st_is2, st_i3, st_is3, st_i4, st_is4, st_i5, st_is5, st_i6, st_is6, st_l8, st_ls8, st_y2, st_y3, st_y4, st_y8, st_o100_0, st_o100_1, st_o100_2, st_o100_3, st_o100_4, st_o100_5, st_o100_6, st_o100_7, st_q100_7, st_o100_8, st_q100_8, st_w100, st_o110_0, st_o110_1, st_w110, st_o129_0, st_o129_1, st_q129_1, st_o129_2, st_q129_2, st_w129, st_o205_0, st_o205_1, st_q205_1, st_o205_2, st_o205_3, st_q205_3, st_o205_4, st_q205_4, st_o205_5, st_q205_5, st_o205_6, st_q205_6, st_o205_7, st_q205_7, st_o205_8, st_q205_8, st_o205_9, st_q205_9, st_w205, st_o235_0, st_o235_1, st_o235_2, st_o235_3, st_o235_4, st_o235_5, st_o235_6, st_o235_7, st_q235_7, st_o235_8, st_q235_8, st_o235_9, st_o235_10, st_q235_10, st_o235_11, st_q235_11, st_o235_12, st_q235_12, st_o235_13, st_q235_13, st_o235_14, st_q235_14, st_o235_15, st_q235_15, st_o235_16, st_q235_16, st_o235_17, st_q235_17, st_o235_18, st_q235_18, st_o235_19, st_o235_20, st_o235_21, st_q235_21, st_o235_22, st_q235_22, st_o235_23, st_o235_24, st_q235_24, st_w235, st_a204, st_as204, st_a206, st_as206, st_a216, st_as216, st_a236, st_as236, st_a237, st_as237, st_a238, st_as238, st_a239, st_as239, st_a240, st_as240, st_a241, st_as241, st_a242, st_as242, st_a243, st_as243, st_a244, st_as244, st_a245, st_as245, st_a246, st_as246, st_r130, st_r203, nx_in, nx_clamp, nx_i2n, nx_l2n, nx_add, nx_sub, nx_pred, nx_mul, nx_lt, nx_le, nx_eq, nx_shl, nx_shr, nx_and1, nx_andm, nx_m1, nx_or, nx_dr, nx_rem, nx_kC, nx_ift, nx_iff, cs_w, ↓nif_lt_t, ↓nif_lt_f, ↓nif_le_t, ↓nif_le_f, ↓nif_eq_t, ↓nif_eq_f, ↓nif_ne_t, ↓nif_ne_f, Nat.one_mul, List.cons_append, List.nil_append, List.append_nil, Option.toList, if_true, if_false, Bool.false_eq_true, and_true, true_and, and_self]
  rfl
theorem s24 (c : Int32) : ev xs L 24 0 [.ref 205, .int c] [] (hS (cs S (tk T n e s) r) t) = some (.inl (some (.int (nI 0))), hS (cs S (tk T n (fl e c s) s) r) t) := by
  have e1 := s25 (xs := xs) (L := L) (S := S) (t := t) (r := r) (e := tk T n e s) s c
  rw [show fl (tk T n e s) c s = tk T n (fl e c s) s by unfold fl; rw [tk_w (by decide), tk_w (by decide)]] at e1
  have nb : vp_nar .boolean (nI 0) = nI 0 := by decide
  simp (config := { decide := false, maxSteps := 1000000 }) (disch := first | assumption | exact nlg_i _ | exact nlg_r _ | exact nlg_n | omega | decide) only [r24_0, r24_1, r24_2, r24_5, r24_6, r24_9, st_g0_0, st_g0_1, st_g0_2, st_g0_3, st_g0_4, st_p0_4, st_g0_5, st_p0_5, st_g0_6, st_p0_6, st_g0_7, st_p0_7, st_v0, st_g1_0, st_g1_1, st_g1_2, st_g1_3, st_p1_3, st_v1, st_g7_0, st_g7_1, st_p7_1, st_g7_2, st_p7_2, st_v7, st_i2, st_is2, st_i3, st_is3, st_i4, st_is4, st_i5, st_is5, st_i6, st_is6, st_l8, st_ls8, st_y2, st_y3, st_y4, st_y8, st_o100_0, st_o100_1, st_o100_2, st_o100_3, st_o100_4, st_o100_5, st_o100_6, st_o100_7, st_q100_7, st_o100_8, st_q100_8, st_w100, st_o110_0, st_o110_1, st_w110, st_o129_0, st_o129_1, st_q129_1, st_o129_2, st_q129_2, st_w129, st_o205_0, st_o205_1, st_q205_1, st_o205_2, st_o205_3, st_q205_3, st_o205_4, st_q205_4, st_o205_5, st_q205_5, st_o205_6, st_q205_6, st_o205_7, st_q205_7, st_o205_8, st_q205_8, st_o205_9, st_q205_9, st_w205, st_o235_0, st_o235_1, st_o235_2, st_o235_3, st_o235_4, st_o235_5, st_o235_6, st_o235_7, st_q235_7, st_o235_8, st_q235_8, st_o235_9, st_o235_10, st_q235_10, st_o235_11, st_q235_11, st_o235_12, st_q235_12, st_o235_13, st_q235_13, st_o235_14, st_q235_14, st_o235_15, st_q235_15, st_o235_16, st_q235_16, st_o235_17, st_q235_17, st_o235_18, st_q235_18, st_o235_19, st_o235_20, st_o235_21, st_q235_21, st_o235_22, st_q235_22, st_o235_23, st_o235_24, st_q235_24, st_w235, st_a204, st_as204, st_a206, st_as206, st_a216, st_as216, st_a236, st_as236, st_a237, st_as237, st_a238, st_as238, st_a239, st_as239, st_a240, st_as240, st_a241, st_as241, st_a242, st_as242, st_a243, st_as243, st_a244, st_as244, st_a245, st_as245, st_a246, st_as246, st_r130, st_r203, nx_in, nx_clamp, nx_i2n, nx_l2n, nx_add, nx_sub, nx_pred, nx_mul, nx_lt, nx_le, nx_eq, nx_shl, nx_shr, nx_and1, nx_andm, nx_m1, nx_or, nx_dr, nx_rem, nx_kC, nx_ift, nx_iff, cs_r, tk_7, e1, nb, ↓nif_lt_t, ↓nif_lt_f, ↓nif_le_t, ↓nif_le_f, ↓nif_eq_t, ↓nif_eq_f, ↓nif_ne_t, ↓nif_ne_f, Nat.one_mul, List.cons_append, List.nil_append, List.append_nil, Option.toList, if_true, if_false, Bool.false_eq_true, and_true, true_and, and_self]
theorem fl_5 {c : Int32} {p : Nat} : fl e c p 5 = e 5 := rfl
theorem fl_3 {c : Int32} {p : Nat} : fl e c p 3 = c := rfl
theorem fl_4 {c : Int32} {p : Nat} : fl e c p 4 = nI p := rfl
theorem kd2 {b : Nat} (h : kdB b = 2) : 48 ≤ b ∧ b ≤ 57 := by
  unfold kdB at h
  split at h
  · exact absurd h (by decide)
  · split at h
    · assumption
    · split at h <;> exact absurd h (by decide)
theorem kd1 {b : Nat} (h : kdB b = 1) : 97 ≤ b ∧ b ≤ 122 := by
  unfold kdB at h
  split at h
  · assumption
  · split at h
    · exact absurd h (by decide)
    · split at h <;> exact absurd h (by decide)
theorem nv_lt : ∀ f p a, a < 1000 → (nv T n f p a).1 < 10010 := by
  intro f
  induction f with
  | zero => intro p a h; exact Nat.lt_trans h (by decide)
  | succ f ih =>
    intro p a h
    rw [show nv T n (f + 1) p a = (if p < n ∧ kdB (T p) = 2 ∧ a < 1000 then nv T n f (p + 1) (10 * a + T p - 48) else (a, p)) from rfl]
    split
    · next hc =>
      have h1 := kd2 hc.2.1
      by_cases h2 : 10 * a + T p - 48 < 1000
      · exact ih _ _ h2
      · cases f with
        | zero => show 10 * a + T p - 48 < 10010; omega
        | succ f =>
          rw [show nv T n (f + 1) (p + 1) (10 * a + T p - 48) = (if p + 1 < n ∧ kdB (T (p + 1)) = 2 ∧ 10 * a + T p - 48 < 1000 then nv T n f (p + 1 + 1) (10 * (10 * a + T p - 48) + T (p + 1) - 48) else (10 * a + T p - 48, p + 1)) from rfl]
          rw [if_neg (fun z => h2 z.2.2)]
          show 10 * a + T p - 48 < 10010
          omega
    · show a < 10010
      omega
theorem vS_lt : vS T n s < 10010 := nv_lt _ _ _ (by decide)
/-- the class's loop over the digits -/
theorem s27a (hb : bty S T n) (hk : kK T n s = 2) : ∀ f p a, f + p = n → s ≤ p → p ≤ eE T n s → a < 10010 → ev xs L 27 7 [.ref 205, .int (nI a), .int (nI p)] [] (hS (cs S (tk T n e s) r) t) = some (.inl (some (.int (nI (nv T n f p a).1))), hS (cs S (tk T n e s) r) t) := by
  have hn := hb.1
  intro f
  induction f with
  | zero =>
    intro p a h h1 h2 h3
    have hs : s ≤ n := by omega
    have hE := (eE_le (T := T) hs).2
    rw [show (nv T n 0 p a).1 = a from rfl]
    simp (config := { decide := false, maxSteps := 1000000 }) (disch := first | assumption | exact nlg_i _ | exact nlg_r _ | exact nlg_n | omega | decide) only [r27_0, r27_1, r27_2, r27_3, r27_6, r27_7, r27_8, r27_9, r27_12, r27_15, r27_16, r27_19, r27_22, r27_24, r27_25, r27_26, r27_27, r27_30, r27_31, r27_32, r27_33, r27_35, r27_36, r27_37, r27_40, r27_43, r27_44, st_g0_0, st_g0_1, st_g0_2, st_g0_3, st_g0_4, st_p0_4, st_g0_5, st_p0_5, st_g0_6, st_p0_6, st_g0_7, st_p0_7, st_v0, st_g1_0, st_g1_1, st_g1_2, st_g1_3, st_p1_3, st_v1, st_g7_0, st_g7_1, st_p7_1, st_g7_2, st_p7_2, st_v7, st_i2, st_is2, st_i3, st_is3, st_i4, st_is4, st_i5, st_is5, st_i6, st_is6, st_l8, st_ls8, st_y2, st_y3, st_y4, st_y8, st_o100_0, st_o100_1, st_o100_2, st_o100_3, st_o100_4, st_o100_5, st_o100_6, st_o100_7, st_q100_7, st_o100_8, st_q100_8, st_w100, st_o110_0, st_o110_1, st_w110, st_o129_0, st_o129_1, st_q129_1, st_o129_2, st_q129_2, st_w129, st_o205_0, st_o205_1, st_q205_1, st_o205_2, st_o205_3, st_q205_3, st_o205_4, st_q205_4, st_o205_5, st_q205_5, st_o205_6, st_q205_6, st_o205_7, st_q205_7, st_o205_8, st_q205_8, st_o205_9, st_q205_9, st_w205, st_o235_0, st_o235_1, st_o235_2, st_o235_3, st_o235_4, st_o235_5, st_o235_6, st_o235_7, st_q235_7, st_o235_8, st_q235_8, st_o235_9, st_o235_10, st_q235_10, st_o235_11, st_q235_11, st_o235_12, st_q235_12, st_o235_13, st_q235_13, st_o235_14, st_q235_14, st_o235_15, st_q235_15, st_o235_16, st_q235_16, st_o235_17, st_q235_17, st_o235_18, st_q235_18, st_o235_19, st_o235_20, st_o235_21, st_q235_21, st_o235_22, st_q235_22, st_o235_23, st_o235_24, st_q235_24, st_w235, st_a204, st_as204, st_a206, st_as206, st_a216, st_as216, st_a236, st_as236, st_a237, st_as237, st_a238, st_as238, st_a239, st_as239, st_a240, st_as240, st_a241, st_as241, st_a242, st_as242, st_a243, st_as243, st_a244, st_as244, st_a245, st_as245, st_a246, st_as246, st_r130, st_r203, nx_in, nx_clamp, nx_i2n, nx_l2n, nx_add, nx_sub, nx_pred, nx_mul, nx_lt, nx_le, nx_eq, nx_shl, nx_shr, nx_and1, nx_andm, nx_m1, nx_or, nx_dr, nx_rem, nx_kC, nx_ift, nx_iff, cs_r, tk_8, ↓nif_lt_t, ↓nif_lt_f, ↓nif_le_t, ↓nif_le_f, ↓nif_eq_t, ↓nif_eq_f, ↓nif_ne_t, ↓nif_ne_f, Nat.one_mul, List.cons_append, List.nil_append, List.append_nil, Option.toList, if_true, if_false, Bool.false_eq_true, and_true, true_and, and_self]
  | succ f ih =>
    intro p a h h1 h2 h3
    obtain ⟨b1, b2, b3⟩ := hb.2 p (by omega)
    have hE := (eE_le (T := T) (n := n) (s := s) (by omega)).2
    rw [r27_7]
    rw [show nv T n (f + 1) p a = (if p < n ∧ kdB (T p) = 2 ∧ a < 1000 then nv T n f (p + 1) (10 * a + T p - 48) else (a, p)) from rfl]
    by_cases hp : p < eE T n s
    · have hd : kdB (T p) = 2 := (eE_all (Or.inr hk) h1 hp).trans hk
      have hd2 := kd2 hd
      by_cases ha : a < 1000
      · rw [if_pos ⟨by omega, hd, ha⟩]
        have e1 := ih (p + 1) (10 * a + T p - 48) (by omega) (by omega) (by omega) (by omega)
        have hbi : bI (T p) = nI (T p) := bI_nI (by omega)
        simp (config := { decide := false, maxSteps := 1000000 }) (disch := first | assumption | exact nlg_i _ | exact nlg_r _ | exact nlg_n | omega | decide) only [r27_0, r27_1, r27_2, r27_3, r27_6, r27_8, r27_9, r27_12, r27_15, r27_16, r27_19, r27_22, r27_24, r27_25, r27_26, r27_27, r27_30, r27_31, r27_32, r27_33, r27_35, r27_36, r27_37, r27_40, r27_43, r27_44, st_g0_0, st_g0_1, st_g0_2, st_g0_3, st_g0_4, st_p0_4, st_g0_5, st_p0_5, st_g0_6, st_p0_6, st_g0_7, st_p0_7, st_v0, st_g1_0, st_g1_1, st_g1_2, st_g1_3, st_p1_3, st_v1, st_g7_0, st_g7_1, st_p7_1, st_g7_2, st_p7_2, st_v7, st_i2, st_is2, st_i3, st_is3, st_i4, st_is4, st_i5, st_is5, st_i6, st_is6, st_l8, st_ls8, st_y2, st_y3, st_y4, st_y8, st_o100_0, st_o100_1, st_o100_2, st_o100_3, st_o100_4, st_o100_5, st_o100_6, st_o100_7, st_q100_7, st_o100_8, st_q100_8, st_w100, st_o110_0, st_o110_1, st_w110, st_o129_0, st_o129_1, st_q129_1, st_o129_2, st_q129_2, st_w129, st_o205_0, st_o205_1, st_q205_1, st_o205_2, st_o205_3, st_q205_3, st_o205_4, st_q205_4, st_o205_5, st_q205_5, st_o205_6, st_q205_6, st_o205_7, st_q205_7, st_o205_8, st_q205_8, st_o205_9, st_q205_9, st_w205, st_o235_0, st_o235_1, st_o235_2, st_o235_3, st_o235_4, st_o235_5, st_o235_6, st_o235_7, st_q235_7, st_o235_8, st_q235_8, st_o235_9, st_o235_10, st_q235_10, st_o235_11, st_q235_11, st_o235_12, st_q235_12, st_o235_13, st_q235_13, st_o235_14, st_q235_14, st_o235_15, st_q235_15, st_o235_16, st_q235_16, st_o235_17, st_q235_17, st_o235_18, st_q235_18, st_o235_19, st_o235_20, st_o235_21, st_q235_21, st_o235_22, st_q235_22, st_o235_23, st_o235_24, st_q235_24, st_w235, st_a204, st_as204, st_a206, st_as206, st_a216, st_as216, st_a236, st_as236, st_a237, st_as237, st_a238, st_as238, st_a239, st_as239, st_a240, st_as240, st_a241, st_as241, st_a242, st_as242, st_a243, st_as243, st_a244, st_as244, st_a245, st_as245, st_a246, st_as246, st_r130, st_r203, nx_in, nx_clamp, nx_i2n, nx_l2n, nx_add, nx_sub, nx_pred, nx_mul, nx_lt, nx_le, nx_eq, nx_shl, nx_shr, nx_and1, nx_andm, nx_m1, nx_or, nx_dr, nx_rem, nx_kC, nx_ift, nx_iff, cs_r, cs_m, tk_8, tk_7, b1, hbi, e1, ↓nif_lt_t, ↓nif_lt_f, ↓nif_le_t, ↓nif_le_f, ↓nif_eq_t, ↓nif_eq_f, ↓nif_ne_t, ↓nif_ne_f, Nat.one_mul, List.cons_append, List.nil_append, List.append_nil, Option.toList, if_true, if_false, Bool.false_eq_true, and_true, true_and, and_self]
      · rw [if_neg (fun z => ha z.2.2)]
        simp (config := { decide := false, maxSteps := 1000000 }) (disch := first | assumption | exact nlg_i _ | exact nlg_r _ | exact nlg_n | omega | decide) only [r27_0, r27_1, r27_2, r27_3, r27_6, r27_8, r27_9, r27_12, r27_15, r27_16, r27_19, r27_24, r27_25, r27_26, r27_27, r27_30, r27_31, r27_32, r27_33, r27_35, r27_36, r27_37, r27_40, r27_43, r27_44, st_g0_0, st_g0_1, st_g0_2, st_g0_3, st_g0_4, st_p0_4, st_g0_5, st_p0_5, st_g0_6, st_p0_6, st_g0_7, st_p0_7, st_v0, st_g1_0, st_g1_1, st_g1_2, st_g1_3, st_p1_3, st_v1, st_g7_0, st_g7_1, st_p7_1, st_g7_2, st_p7_2, st_v7, st_i2, st_is2, st_i3, st_is3, st_i4, st_is4, st_i5, st_is5, st_i6, st_is6, st_l8, st_ls8, st_y2, st_y3, st_y4, st_y8, st_o100_0, st_o100_1, st_o100_2, st_o100_3, st_o100_4, st_o100_5, st_o100_6, st_o100_7, st_q100_7, st_o100_8, st_q100_8, st_w100, st_o110_0, st_o110_1, st_w110, st_o129_0, st_o129_1, st_q129_1, st_o129_2, st_q129_2, st_w129, st_o205_0, st_o205_1, st_q205_1, st_o205_2, st_o205_3, st_q205_3, st_o205_4, st_q205_4, st_o205_5, st_q205_5, st_o205_6, st_q205_6, st_o205_7, st_q205_7, st_o205_8, st_q205_8, st_o205_9, st_q205_9, st_w205, st_o235_0, st_o235_1, st_o235_2, st_o235_3, st_o235_4, st_o235_5, st_o235_6, st_o235_7, st_q235_7, st_o235_8, st_q235_8, st_o235_9, st_o235_10, st_q235_10, st_o235_11, st_q235_11, st_o235_12, st_q235_12, st_o235_13, st_q235_13, st_o235_14, st_q235_14, st_o235_15, st_q235_15, st_o235_16, st_q235_16, st_o235_17, st_q235_17, st_o235_18, st_q235_18, st_o235_19, st_o235_20, st_o235_21, st_q235_21, st_o235_22, st_q235_22, st_o235_23, st_o235_24, st_q235_24, st_w235, st_a204, st_as204, st_a206, st_as206, st_a216, st_as216, st_a236, st_as236, st_a237, st_as237, st_a238, st_as238, st_a239, st_as239, st_a240, st_as240, st_a241, st_as241, st_a242, st_as242, st_a243, st_as243, st_a244, st_as244, st_a245, st_as245, st_a246, st_as246, st_r130, st_r203, nx_in, nx_clamp, nx_i2n, nx_l2n, nx_add, nx_sub, nx_pred, nx_mul, nx_lt, nx_le, nx_eq, nx_shl, nx_shr, nx_and1, nx_andm, nx_m1, nx_or, nx_dr, nx_rem, nx_kC, nx_ift, nx_iff, cs_r, cs_m, tk_8, tk_7, ↓nif_lt_t, ↓nif_lt_f, ↓nif_le_t, ↓nif_le_f, ↓nif_eq_t, ↓nif_eq_f, ↓nif_ne_t, ↓nif_ne_f, Nat.one_mul, List.cons_append, List.nil_append, List.append_nil, Option.toList, if_true, if_false, Bool.false_eq_true, and_true, true_and, and_self]
    · have hp2 : p = eE T n s := by omega
      have hx : ¬ (p < n ∧ kdB (T p) = 2 ∧ a < 1000) := by
        intro z
        have hs : s < n := by omega
        have hk2 : kdB (T s) = 2 := by
          unfold kK at hk
          rw [if_pos hs] at hk
          exact hk
        have hg : ∀ f q, f + q = n → te T n 2 f q < n → ¬ kdB (T (te T n 2 f q)) = 2 := by
          intro f
          induction f with
          | zero => intro q hq hl; exact absurd (show q < n from hl) (by omega)
          | succ f ih2 =>
            intro q hq
            rw [show te T n 2 (f + 1) q = (if q < n ∧ kdB (T q) = 2 then te T n 2 f (q + 1) else q) from rfl]
            split
            · intro hl
              exact ih2 (q + 1) (by omega) hl
            · next hc => intro hl z2; exact hc ⟨by omega, z2⟩
        have hE2 : eE T n s = te T n 2 (n - (s + 1)) (s + 1) := by
          unfold eE
          rw [if_pos hs, if_pos (Or.inr hk2), hk2]
        rw [hp2, hE2] at z
        exact hg (n - (s + 1)) (s + 1) (by omega) z.1 z.2.1
      rw [if_neg hx]
      simp (config := { decide := false, maxSteps := 1000000 }) (disch := first | assumption | exact nlg_i _ | exact nlg_r _ | exact nlg_n | omega | decide) only [r27_0, r27_1, r27_2, r27_3, r27_6, r27_8, r27_9, r27_12, r27_16, r27_19, r27_22, r27_24, r27_25, r27_26, r27_27, r27_30, r27_31, r27_32, r27_33, r27_35, r27_36, r27_37, r27_40, r27_43, r27_44, st_g0_0, st_g0_1, st_g0_2, st_g0_3, st_g0_4, st_p0_4, st_g0_5, st_p0_5, st_g0_6, st_p0_6, st_g0_7, st_p0_7, st_v0, st_g1_0, st_g1_1, st_g1_2, st_g1_3, st_p1_3, st_v1, st_g7_0, st_g7_1, st_p7_1, st_g7_2, st_p7_2, st_v7, st_i2, st_is2, st_i3, st_is3, st_i4, st_is4, st_i5, st_is5, st_i6, st_is6, st_l8, st_ls8, st_y2, st_y3, st_y4, st_y8, st_o100_0, st_o100_1, st_o100_2, st_o100_3, st_o100_4, st_o100_5, st_o100_6, st_o100_7, st_q100_7, st_o100_8, st_q100_8, st_w100, st_o110_0, st_o110_1, st_w110, st_o129_0, st_o129_1, st_q129_1, st_o129_2, st_q129_2, st_w129, st_o205_0, st_o205_1, st_q205_1, st_o205_2, st_o205_3, st_q205_3, st_o205_4, st_q205_4, st_o205_5, st_q205_5, st_o205_6, st_q205_6, st_o205_7, st_q205_7, st_o205_8, st_q205_8, st_o205_9, st_q205_9, st_w205, st_o235_0, st_o235_1, st_o235_2, st_o235_3, st_o235_4, st_o235_5, st_o235_6, st_o235_7, st_q235_7, st_o235_8, st_q235_8, st_o235_9, st_o235_10, st_q235_10, st_o235_11, st_q235_11, st_o235_12, st_q235_12, st_o235_13, st_q235_13, st_o235_14, st_q235_14, st_o235_15, st_q235_15, st_o235_16, st_q235_16, st_o235_17, st_q235_17, st_o235_18, st_q235_18, st_o235_19, st_o235_20, st_o235_21, st_q235_21, st_o235_22, st_q235_22, st_o235_23, st_o235_24, st_q235_24, st_w235, st_a204, st_as204, st_a206, st_as206, st_a216, st_as216, st_a236, st_as236, st_a237, st_as237, st_a238, st_as238, st_a239, st_as239, st_a240, st_as240, st_a241, st_as241, st_a242, st_as242, st_a243, st_as243, st_a244, st_as244, st_a245, st_as245, st_a246, st_as246, st_r130, st_r203, nx_in, nx_clamp, nx_i2n, nx_l2n, nx_add, nx_sub, nx_pred, nx_mul, nx_lt, nx_le, nx_eq, nx_shl, nx_shr, nx_and1, nx_andm, nx_m1, nx_or, nx_dr, nx_rem, nx_kC, nx_ift, nx_iff, cs_r, cs_m, tk_8, tk_7, ↓nif_lt_t, ↓nif_lt_f, ↓nif_le_t, ↓nif_le_f, ↓nif_eq_t, ↓nif_eq_f, ↓nif_ne_t, ↓nif_ne_f, Nat.one_mul, List.cons_append, List.nil_append, List.append_nil, Option.toList, if_true, if_false, Bool.false_eq_true, and_true, true_and, and_self]
theorem s27 (hb : bty S T n) (hk : kK T n s = 2) (hs : s ≤ n) : ev xs L 27 0 [.ref 205, .null, .null] [] (hS (cs S (tk T n e s) r) t) = some (.inl (some (.int (nI (vS T n s)))), hS (cs S (tk T n e s) r) t) := by
  have hE := eE_le (T := T) hs
  have e1 := s27a (xs := xs) (L := L) (r := r) (t := t) (e := e) hb hk (n - s) s 0 (by omega) (Nat.le_refl _) hE.1 (by decide)
  simp (config := { decide := false, maxSteps := 1000000 }) (disch := first | assumption | exact nlg_i _ | exact nlg_r _ | exact nlg_n | omega | decide) only [r27_0, r27_1, r27_2, r27_3, r27_6, r27_8, r27_9, r27_12, r27_15, r27_16, r27_19, r27_22, r27_24, r27_25, r27_26, r27_27, r27_30, r27_31, r27_32, r27_33, r27_35, r27_36, r27_37, r27_40, r27_43, r27_44, st_g0_0, st_g0_1, st_g0_2, st_g0_3, st_g0_4, st_p0_4, st_g0_5, st_p0_5, st_g0_6, st_p0_6, st_g0_7, st_p0_7, st_v0, st_g1_0, st_g1_1, st_g1_2, st_g1_3, st_p1_3, st_v1, st_g7_0, st_g7_1, st_p7_1, st_g7_2, st_p7_2, st_v7, st_i2, st_is2, st_i3, st_is3, st_i4, st_is4, st_i5, st_is5, st_i6, st_is6, st_l8, st_ls8, st_y2, st_y3, st_y4, st_y8, st_o100_0, st_o100_1, st_o100_2, st_o100_3, st_o100_4, st_o100_5, st_o100_6, st_o100_7, st_q100_7, st_o100_8, st_q100_8, st_w100, st_o110_0, st_o110_1, st_w110, st_o129_0, st_o129_1, st_q129_1, st_o129_2, st_q129_2, st_w129, st_o205_0, st_o205_1, st_q205_1, st_o205_2, st_o205_3, st_q205_3, st_o205_4, st_q205_4, st_o205_5, st_q205_5, st_o205_6, st_q205_6, st_o205_7, st_q205_7, st_o205_8, st_q205_8, st_o205_9, st_q205_9, st_w205, st_o235_0, st_o235_1, st_o235_2, st_o235_3, st_o235_4, st_o235_5, st_o235_6, st_o235_7, st_q235_7, st_o235_8, st_q235_8, st_o235_9, st_o235_10, st_q235_10, st_o235_11, st_q235_11, st_o235_12, st_q235_12, st_o235_13, st_q235_13, st_o235_14, st_q235_14, st_o235_15, st_q235_15, st_o235_16, st_q235_16, st_o235_17, st_q235_17, st_o235_18, st_q235_18, st_o235_19, st_o235_20, st_o235_21, st_q235_21, st_o235_22, st_q235_22, st_o235_23, st_o235_24, st_q235_24, st_w235, st_a204, st_as204, st_a206, st_as206, st_a216, st_as216, st_a236, st_as236, st_a237, st_as237, st_a238, st_as238, st_a239, st_as239, st_a240, st_as240, st_a241, st_as241, st_a242, st_as242, st_a243, st_as243, st_a244, st_as244, st_a245, st_as245, st_a246, st_as246, st_r130, st_r203, nx_in, nx_clamp, nx_i2n, nx_l2n, nx_add, nx_sub, nx_pred, nx_mul, nx_lt, nx_le, nx_eq, nx_shl, nx_shr, nx_and1, nx_andm, nx_m1, nx_or, nx_dr, nx_rem, nx_kC, nx_ift, nx_iff, cs_r, tk_7, e1, ↓nif_lt_t, ↓nif_lt_f, ↓nif_le_t, ↓nif_le_f, ↓nif_eq_t, ↓nif_eq_f, ↓nif_ne_t, ↓nif_ne_f, Nat.one_mul, List.cons_append, List.nil_append, List.append_nil, Option.toList, if_true, if_false, Bool.false_eq_true, and_true, true_and, and_self]
  rfl
/-- what a number must be -/
def tkN (T : Nat → Nat) (n lo hi s : Nat) : Option Int32 := if kK T n s = 2 then (if lo ≤ vS T n s ∧ vS T n s ≤ hi then none else some (nI 0 - nI 3)) else some (nI 0 - nI 2)
/-- the next token behind a token -/
def nS (T : Nat → Nat) (n s : Nat) : Nat := nT T n (eE T n s)
theorem nS_le (hs : s ≤ n) : s ≤ nS T n s ∧ nS T n s ≤ n := by
  have h1 := eE_le (T := T) hs
  have h2 := nT_le (T := T) h1.2
  unfold nS
  omega
theorem nS_gt (hs : s < n) : s < nS T n s := by
  have h1 := eE_gt (T := T) hs
  have h2 := nT_le (T := T) (eE_le (T := T) (Nat.le_of_lt hs)).2
  unfold nS
  omega
theorem s19n (hb : bty S T n) (hs : s ≤ n) (h5 : e 5 = nI n) : ev xs L 19 0 [.ref 205] [] (hS (cs S (tk T n e s) r) t) = some (.inl none, hS (cs S (tk T n e (nS T n s)) r) t) := by
  have e1 := s19 (xs := xs) (L := L) (r := r) (t := t) (e := tk T n e s) hb (eE_le (T := T) hs).2 (by rw [tk_n (by decide)]; exact h5) tk_8
  rw [tk_tk] at e1
  exact e1
theorem s26_f {c : Int32} {lo hi : Nat} (hb : bty S T n) (hs : s ≤ n) (h5 : e 5 = nI n) (hlo : lo < 2 ^ 20) (hhi : hi < 2 ^ 20) (h : tkN T n lo hi s = some c) : ∃ e', e' 3 = c ∧ e' 4 = nI s ∧ ev xs L 26 0 [.ref 205, .int (nI lo), .int (nI hi)] [] (hS (cs S (tk T n e s) r) t) = some (.inl (some (.int (nI 0))), hS (cs S e' r) t) := by
  have hn := hb.1
  have hk4 := kK_lt (T := T) (n := n) s
  have hv := vS_lt (T := T) (n := n) (s := s)
  have nb : vp_nar .boolean (nI 0) = nI 0 := by decide
  unfold tkN at h
  by_cases hk : kK T n s = 2
  · rw [if_pos hk] at h
    by_cases hr : lo ≤ vS T n s ∧ vS T n s ≤ hi
    · rw [if_pos hr] at h
      exact absurd h (by simp)
    · rw [if_neg hr] at h
      have hc := Option.some.inj h
      have e27 := s27 (xs := xs) (L := L) (r := r) (t := t) (e := e) hb hk hs
      have e24 := s24 (xs := xs) (L := L) (S := S) (r := r) (t := t) (T := T) (n := n) (s := s) (e := upI e 9 (nI (vS T n s))) (nI 0 - nI 3)
      have x9 : ∀ w, tk T n (upI e 9 w) s 9 = w := fun w => rfl
      refine ⟨tk T n (fl (upI e 9 (nI (vS T n s))) (nI 0 - nI 3) s) s, hc, rfl, ?_⟩
      have q3 : (-3 : Int32) = nI 0 - nI 3 := by decide
      have tw : ∀ w, upI (tk T n e s) 9 w = tk T n (upI e 9 w) s := fun w => tk_w (by decide)
      by_cases h1 : vS T n s < lo
      · simp (config := { decide := false, maxSteps := 1000000 }) (disch := first | assumption | exact nlg_i _ | exact nlg_r _ | exact nlg_n | omega | decide) only [r26_0, r26_1, r26_4, r26_5, r26_8, r26_9, r26_11, r26_14, r26_15, r26_16, r26_17, r26_20, r26_23, r26_24, r26_27, r26_28, r26_32, r26_35, r26_36, r26_39, r26_40, r26_42, r26_45, r26_46, r26_47, r26_50, r26_51, st_g0_0, st_g0_1, st_g0_2, st_g0_3, st_g0_4, st_p0_4, st_g0_5, st_p0_5, st_g0_6, st_p0_6, st_g0_7, st_p0_7, st_v0, st_g1_0, st_g1_1, st_g1_2, st_g1_3, st_p1_3, st_v1, st_g7_0, st_g7_1, st_p7_1, st_g7_2, st_p7_2, st_v7, st_i2, st_is2, st_i3, st_is3, st_i4, st_is4, st_i5, st_is5, st_i6, st_is6, st_l8, st_ls8, st_y2, st_y3, st_y4, st_y8, st_o100_0, st_o100_1, st_o100_2, st_o100_3, st_o100_4, st_o100_5, st_o100_6, st_o100_7, st_q100_7, st_o100_8, st_q100_8, st_w100, st_o110_0, st_o110_1, st_w110, st_o129_0, st_o129_1, st_q129_1, st_o129_2, st_q129_2, st_w129, st_o205_0, st_o205_1, st_q205_1, st_o205_2, st_o205_3, st_q205_3, st_o205_4, st_q205_4, st_o205_5, st_q205_5, st_o205_6, st_q205_6, st_o205_7, st_q205_7, st_o205_8, st_q205_8, st_o205_9, st_q205_9, st_w205, st_o235_0, st_o235_1, st_o235_2, st_o235_3, st_o235_4, st_o235_5, st_o235_6, st_o235_7, st_q235_7, st_o235_8, st_q235_8, st_o235_9, st_o235_10, st_q235_10, st_o235_11, st_q235_11, st_o235_12, st_q235_12, st_o235_13, st_q235_13, st_o235_14, st_q235_14, st_o235_15, st_q235_15, st_o235_16, st_q235_16, st_o235_17, st_q235_17, st_o235_18, st_q235_18, st_o235_19, st_o235_20, st_o235_21, st_q235_21, st_o235_22, st_q235_22, st_o235_23, st_o235_24, st_q235_24, st_w235, st_a204, st_as204, st_a206, st_as206, st_a216, st_as216, st_a236, st_as236, st_a237, st_as237, st_a238, st_as238, st_a239, st_as239, st_a240, st_as240, st_a241, st_as241, st_a242, st_as242, st_a243, st_as243, st_a244, st_as244, st_a245, st_as245, st_a246, st_as246, st_r130, st_r203, nx_in, nx_clamp, nx_i2n, nx_l2n, nx_add, nx_sub, nx_pred, nx_mul, nx_lt, nx_le, nx_eq, nx_shl, nx_shr, nx_and1, nx_andm, nx_m1, nx_or, nx_dr, nx_rem, nx_kC, nx_ift, nx_iff, cs_r, cs_w, tk_6, hk, e27, x9, tw, q3, e24, nb, ↓nif_lt_t, ↓nif_lt_f, ↓nif_le_t, ↓nif_le_f, ↓nif_eq_t, ↓nif_eq_f, ↓nif_ne_t, ↓nif_ne_f, Nat.one_mul, List.cons_append, List.nil_append, List.append_nil, Option.toList, if_true, if_false, Bool.false_eq_true, and_true, true_and, and_self]
      · have h2 : hi < vS T n s := by omega
        simp (config := { decide := false, maxSteps := 1000000 }) (disch := first | assumption | exact nlg_i _ | exact nlg_r _ | exact nlg_n | omega | decide) only [r26_0, r26_1, r26_4, r26_5, r26_8, r26_9, r26_11, r26_14, r26_15, r26_16, r26_17, r26_20, r26_23, r26_24, r26_27, r26_28, r26_31, r26_32, r26_35, r26_36, r26_39, r26_40, r26_42, r26_45, r26_47, r26_50, r26_51, st_g0_0, st_g0_1, st_g0_2, st_g0_3, st_g0_4, st_p0_4, st_g0_5, st_p0_5, st_g0_6, st_p0_6, st_g0_7, st_p0_7, st_v0, st_g1_0, st_g1_1, st_g1_2, st_g1_3, st_p1_3, st_v1, st_g7_0, st_g7_1, st_p7_1, st_g7_2, st_p7_2, st_v7, st_i2, st_is2, st_i3, st_is3, st_i4, st_is4, st_i5, st_is5, st_i6, st_is6, st_l8, st_ls8, st_y2, st_y3, st_y4, st_y8, st_o100_0, st_o100_1, st_o100_2, st_o100_3, st_o100_4, st_o100_5, st_o100_6, st_o100_7, st_q100_7, st_o100_8, st_q100_8, st_w100, st_o110_0, st_o110_1, st_w110, st_o129_0, st_o129_1, st_q129_1, st_o129_2, st_q129_2, st_w129, st_o205_0, st_o205_1, st_q205_1, st_o205_2, st_o205_3, st_q205_3, st_o205_4, st_q205_4, st_o205_5, st_q205_5, st_o205_6, st_q205_6, st_o205_7, st_q205_7, st_o205_8, st_q205_8, st_o205_9, st_q205_9, st_w205, st_o235_0, st_o235_1, st_o235_2, st_o235_3, st_o235_4, st_o235_5, st_o235_6, st_o235_7, st_q235_7, st_o235_8, st_q235_8, st_o235_9, st_o235_10, st_q235_10, st_o235_11, st_q235_11, st_o235_12, st_q235_12, st_o235_13, st_q235_13, st_o235_14, st_q235_14, st_o235_15, st_q235_15, st_o235_16, st_q235_16, st_o235_17, st_q235_17, st_o235_18, st_q235_18, st_o235_19, st_o235_20, st_o235_21, st_q235_21, st_o235_22, st_q235_22, st_o235_23, st_o235_24, st_q235_24, st_w235, st_a204, st_as204, st_a206, st_as206, st_a216, st_as216, st_a236, st_as236, st_a237, st_as237, st_a238, st_as238, st_a239, st_as239, st_a240, st_as240, st_a241, st_as241, st_a242, st_as242, st_a243, st_as243, st_a244, st_as244, st_a245, st_as245, st_a246, st_as246, st_r130, st_r203, nx_in, nx_clamp, nx_i2n, nx_l2n, nx_add, nx_sub, nx_pred, nx_mul, nx_lt, nx_le, nx_eq, nx_shl, nx_shr, nx_and1, nx_andm, nx_m1, nx_or, nx_dr, nx_rem, nx_kC, nx_ift, nx_iff, cs_r, cs_w, tk_6, hk, e27, x9, tw, q3, e24, nb, ↓nif_lt_t, ↓nif_lt_f, ↓nif_le_t, ↓nif_le_f, ↓nif_eq_t, ↓nif_eq_f, ↓nif_ne_t, ↓nif_ne_f, Nat.one_mul, List.cons_append, List.nil_append, List.append_nil, Option.toList, if_true, if_false, Bool.false_eq_true, and_true, true_and, and_self]
  · rw [if_neg hk] at h
    have hc := Option.some.inj h
    have e24 := s24 (xs := xs) (L := L) (S := S) (r := r) (t := t) (T := T) (n := n) (s := s) (e := e) (nI 0 - nI 2)
    have q2 : (-2 : Int32) = nI 0 - nI 2 := by decide
    refine ⟨tk T n (fl e (nI 0 - nI 2) s) s, hc, rfl, ?_⟩
    simp (config := { decide := false, maxSteps := 1000000 }) (disch := first | assumption | exact nlg_i _ | exact nlg_r _ | exact nlg_n | omega | decide) only [r26_0, r26_1, r26_4, r26_5, r26_8, r26_9, r26_11, r26_14, r26_16, r26_17, r26_20, r26_23, r26_24, r26_27, r26_28, r26_31, r26_32, r26_35, r26_36, r26_39, r26_40, r26_42, r26_45, r26_46, r26_47, r26_50, r26_51, st_g0_0, st_g0_1, st_g0_2, st_g0_3, st_g0_4, st_p0_4, st_g0_5, st_p0_5, st_g0_6, st_p0_6, st_g0_7, st_p0_7, st_v0, st_g1_0, st_g1_1, st_g1_2, st_g1_3, st_p1_3, st_v1, st_g7_0, st_g7_1, st_p7_1, st_g7_2, st_p7_2, st_v7, st_i2, st_is2, st_i3, st_is3, st_i4, st_is4, st_i5, st_is5, st_i6, st_is6, st_l8, st_ls8, st_y2, st_y3, st_y4, st_y8, st_o100_0, st_o100_1, st_o100_2, st_o100_3, st_o100_4, st_o100_5, st_o100_6, st_o100_7, st_q100_7, st_o100_8, st_q100_8, st_w100, st_o110_0, st_o110_1, st_w110, st_o129_0, st_o129_1, st_q129_1, st_o129_2, st_q129_2, st_w129, st_o205_0, st_o205_1, st_q205_1, st_o205_2, st_o205_3, st_q205_3, st_o205_4, st_q205_4, st_o205_5, st_q205_5, st_o205_6, st_q205_6, st_o205_7, st_q205_7, st_o205_8, st_q205_8, st_o205_9, st_q205_9, st_w205, st_o235_0, st_o235_1, st_o235_2, st_o235_3, st_o235_4, st_o235_5, st_o235_6, st_o235_7, st_q235_7, st_o235_8, st_q235_8, st_o235_9, st_o235_10, st_q235_10, st_o235_11, st_q235_11, st_o235_12, st_q235_12, st_o235_13, st_q235_13, st_o235_14, st_q235_14, st_o235_15, st_q235_15, st_o235_16, st_q235_16, st_o235_17, st_q235_17, st_o235_18, st_q235_18, st_o235_19, st_o235_20, st_o235_21, st_q235_21, st_o235_22, st_q235_22, st_o235_23, st_o235_24, st_q235_24, st_w235, st_a204, st_as204, st_a206, st_as206, st_a216, st_as216, st_a236, st_as236, st_a237, st_as237, st_a238, st_as238, st_a239, st_as239, st_a240, st_as240, st_a241, st_as241, st_a242, st_as242, st_a243, st_as243, st_a244, st_as244, st_a245, st_as245, st_a246, st_as246, st_r130, st_r203, nx_in, nx_clamp, nx_i2n, nx_l2n, nx_add, nx_sub, nx_pred, nx_mul, nx_lt, nx_le, nx_eq, nx_shl, nx_shr, nx_and1, nx_andm, nx_m1, nx_or, nx_dr, nx_rem, nx_kC, nx_ift, nx_iff, cs_r, cs_w, tk_6, q2, e24, nb, ↓nif_lt_t, ↓nif_lt_f, ↓nif_le_t, ↓nif_le_f, ↓nif_eq_t, ↓nif_eq_f, ↓nif_ne_t, ↓nif_ne_f, Nat.one_mul, List.cons_append, List.nil_append, List.append_nil, Option.toList, if_true, if_false, Bool.false_eq_true, and_true, true_and, and_self]
theorem s26_t {lo hi : Nat} (hb : bty S T n) (hs : s ≤ n) (h5 : e 5 = nI n) (hlo : lo < 2 ^ 20) (hhi : hi < 2 ^ 20) (h : tkN T n lo hi s = none) : ev xs L 26 0 [.ref 205, .int (nI lo), .int (nI hi)] [] (hS (cs S (tk T n e s) r) t) = some (.inl (some (.int (nI 1))), hS (cs S (tk T n (upI e 9 (nI (vS T n s))) (nS T n s)) r) t) := by
  have hn := hb.1
  have hv := vS_lt (T := T) (n := n) (s := s)
  unfold tkN at h
  by_cases hk : kK T n s = 2
  · rw [if_pos hk] at h
    by_cases hr : lo ≤ vS T n s ∧ vS T n s ≤ hi
    · have e27 := s27 (xs := xs) (L := L) (r := r) (t := t) (e := e) hb hk hs
      have x9 : ∀ w, tk T n (upI e 9 w) s 9 = w := fun w => rfl
      have tw : ∀ w, upI (tk T n e s) 9 w = tk T n (upI e 9 w) s := fun w => tk_w (by decide)
      have e19 := s19n (xs := xs) (L := L) (r := r) (t := t) (e := upI e 9 (nI (vS T n s))) hb hs (by rw [upI_n (by decide)]; exact h5)
      have nb : vp_nar .boolean (nI 1) = nI 1 := by decide
      obtain ⟨hr1, hr2⟩ := hr
      simp (config := { decide := false, maxSteps := 1000000 }) (disch := first | assumption | exact nlg_i _ | exact nlg_r _ | exact nlg_n | omega | decide) only [r26_0, r26_1, r26_4, r26_5, r26_8, r26_9, r26_11, r26_14, r26_15, r26_16, r26_17, r26_20, r26_23, r26_24, r26_27, r26_28, r26_31, r26_32, r26_35, r26_36, r26_40, r26_42, r26_45, r26_46, r26_47, r26_50, r26_51, st_g0_0, st_g0_1, st_g0_2, st_g0_3, st_g0_4, st_p0_4, st_g0_5, st_p0_5, st_g0_6, st_p0_6, st_g0_7, st_p0_7, st_v0, st_g1_0, st_g1_1, st_g1_2, st_g1_3, st_p1_3, st_v1, st_g7_0, st_g7_1, st_p7_1, st_g7_2, st_p7_2, st_v7, st_i2, st_is2, st_i3, st_is3, st_i4, st_is4, st_i5, st_is5, st_i6, st_is6, st_l8, st_ls8, st_y2, st_y3, st_y4, st_y8, st_o100_0, st_o100_1, st_o100_2, st_o100_3, st_o100_4, st_o100_5, st_o100_6, st_o100_7, st_q100_7, st_o100_8, st_q100_8, st_w100, st_o110_0, st_o110_1, st_w110, st_o129_0, st_o129_1, st_q129_1, st_o129_2, st_q129_2, st_w129, st_o205_0, st_o205_1, st_q205_1, st_o205_2, st_o205_3, st_q205_3, st_o205_4, st_q205_4, st_o205_5, st_q205_5, st_o205_6, st_q205_6, st_o205_7, st_q205_7, st_o205_8, st_q205_8, st_o205_9, st_q205_9, st_w205, st_o235_0, st_o235_1, st_o235_2, st_o235_3, st_o235_4, st_o235_5, st_o235_6, st_o235_7, st_q235_7, st_o235_8, st_q235_8, st_o235_9, st_o235_10, st_q235_10, st_o235_11, st_q235_11, st_o235_12, st_q235_12, st_o235_13, st_q235_13, st_o235_14, st_q235_14, st_o235_15, st_q235_15, st_o235_16, st_q235_16, st_o235_17, st_q235_17, st_o235_18, st_q235_18, st_o235_19, st_o235_20, st_o235_21, st_q235_21, st_o235_22, st_q235_22, st_o235_23, st_o235_24, st_q235_24, st_w235, st_a204, st_as204, st_a206, st_as206, st_a216, st_as216, st_a236, st_as236, st_a237, st_as237, st_a238, st_as238, st_a239, st_as239, st_a240, st_as240, st_a241, st_as241, st_a242, st_as242, st_a243, st_as243, st_a244, st_as244, st_a245, st_as245, st_a246, st_as246, st_r130, st_r203, nx_in, nx_clamp, nx_i2n, nx_l2n, nx_add, nx_sub, nx_pred, nx_mul, nx_lt, nx_le, nx_eq, nx_shl, nx_shr, nx_and1, nx_andm, nx_m1, nx_or, nx_dr, nx_rem, nx_kC, nx_ift, nx_iff, cs_r, cs_w, tk_6, hk, e27, x9, tw, e19, nb, ↓nif_lt_t, ↓nif_lt_f, ↓nif_le_t, ↓nif_le_f, ↓nif_eq_t, ↓nif_eq_f, ↓nif_ne_t, ↓nif_ne_f, Nat.one_mul, List.cons_append, List.nil_append, List.append_nil, Option.toList, if_true, if_false, Bool.false_eq_true, and_true, true_and, and_self]
    · rw [if_neg hr] at h
      exact absurd h (by simp)
  · rw [if_neg hk] at h
    exact absurd h (by simp)
end XCP
