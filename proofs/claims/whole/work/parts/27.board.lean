section XBD
variable {xs : Nat → Int32} {L : Nat} {S : xS} {t : Nat × Nat × Nat} {g c : Nat}
def upN (f : Nat → Nat) (i v : Nat) : Nat → Nat := fun j => if j = i then v else f j
theorem upN_e (f : Nat → Nat) (i v : Nat) : upN f i v i = v := if_pos rfl
theorem upN_n {f : Nat → Nat} {i j v : Nat} (h : j ≠ i) : upN f i v j = f j := if_neg h
/-- the store with the heights and the pieces of a game put in place of its own -/
def bd (S : xS) (g : Nat) (h p : Nat → Nat) : xS := (fun g' a' => if g' = g ∧ a' = 3 then h else if g' = g ∧ a' = 4 then p else S.1 g' a', S.2)
theorem bd_self (S : xS) (g : Nat) : bd S g (S.1 g 3) (S.1 g 4) = S := by
  refine Prod.ext ?_ rfl
  funext g' a'
  show (if _ then _ else _) = _
  split
  · next h => rw [h.1, h.2]
  · split
    · next h => rw [h.1, h.2]
    · rfl
theorem bd_3 (h p : Nat → Nat) : (bd S g h p).1 g 3 = h := if_pos ⟨rfl, rfl⟩
theorem bd_4 (h p : Nat → Nat) : (bd S g h p).1 g 4 = p := (if_neg (fun z => absurd z.2 (by decide))).trans (if_pos ⟨rfl, rfl⟩)
theorem bd_n (h p : Nat → Nat) {a : Nat} (h3 : a ≠ 3) (h4 : a ≠ 4) (g' : Nat) : (bd S g h p).1 g' a = S.1 g' a := (if_neg (fun z => h3 z.2)).trans (if_neg (fun z => h4 z.2))
theorem bd_s3 (h p : Nat → Nat) (i v : Nat) : sF (bd S g h p) g 3 i v = bd S g (upN h i v) p := by
  refine Prod.ext ?_ rfl
  funext g' a' i'
  show (if g' = g ∧ a' = 3 ∧ i' = i then v else (if g' = g ∧ a' = 3 then h else if g' = g ∧ a' = 4 then p else S.1 g' a') i') = (if g' = g ∧ a' = 3 then upN h i v else if g' = g ∧ a' = 4 then p else S.1 g' a') i'
  by_cases h1 : g' = g ∧ a' = 3
  · rw [if_pos h1, if_pos h1]
    unfold upN
    by_cases h2 : i' = i
    · rw [if_pos ⟨h1.1, h1.2, h2⟩, if_pos h2]
    · rw [if_neg (fun z => h2 z.2.2), if_neg h2]
  · rw [if_neg h1, if_neg h1, if_neg (fun z => h1 ⟨z.1, z.2.1⟩)]
theorem bd_s4 (h p : Nat → Nat) (i v : Nat) : sF (bd S g h p) g 4 i v = bd S g h (upN p i v) := by
  refine Prod.ext ?_ rfl
  funext g' a' i'
  show (if g' = g ∧ a' = 4 ∧ i' = i then v else (if g' = g ∧ a' = 3 then h else if g' = g ∧ a' = 4 then p else S.1 g' a') i') = (if g' = g ∧ a' = 3 then h else if g' = g ∧ a' = 4 then upN p i v else S.1 g' a') i'
  by_cases h1 : g' = g ∧ a' = 3
  · rw [if_pos h1, if_pos h1, if_neg (fun z => by have := z.2.1; have := h1.2; omega)]
  · rw [if_neg h1, if_neg h1]
    by_cases h3 : g' = g ∧ a' = 4
    · rw [if_pos h3, if_pos h3]
      unfold upN
      by_cases h2 : i' = i
      · rw [if_pos ⟨h3.1, h3.2, h2⟩, if_pos h2]
      · rw [if_neg (fun z => h2 z.2.2), if_neg h2]
    · rw [if_neg h3, if_neg h3, if_neg (fun z => h3 ⟨z.1, z.2.1⟩)]
theorem zor {a k b : Nat} (h : a < 2 ^ k) : a ||| b * 2 ^ k = a + b * 2 ^ k := by
  rw [Nat.mul_comm, Nat.or_comm, ← Nat.two_pow_add_eq_or_of_lt h, Nat.add_comm]
theorem zmt {a b k m : Nat} (ha : a < 2 ^ k) (hb : b < 2 ^ m) : a + b * 2 ^ k < 2 ^ (k + m) := by
  have h1 : (b + 1) * 2 ^ k ≤ 2 ^ m * 2 ^ k := Nat.mul_le_mul_right _ hb
  rw [Nat.pow_add, Nat.mul_comm (2 ^ k)]
  rw [Nat.succ_mul] at h1
  omega
theorem z24 {h p : Nat} (h1 : h ≤ 24) (h2 : p < 2 ^ h) : p < 16777217 := Nat.lt_of_lt_of_le h2 (Nat.le_trans (Nat.pow_le_pow_right (by decide) h1) (by decide))
theorem s53 (h : isG g = true) (hc : c < 12) {hh pp : Nat → Nat} {k : Nat} (h1 : hh c ≤ 24) (h2 : pp c < 2 ^ hh c) (hk : k ≤ hh c) : ev xs L 53 0 [.ref (g + 1), .int (nI c), .int (nI k)] [] (hS (bd S g hh pp) t) = some (.inl none, hS (bd S g (upN hh c (hh c - k)) (upN pp c (pp c % 2 ^ (hh c - k)))) t) := by
  have b1 := z24 h1 h2
  have b2 : pp c % 2 ^ (hh c - k) ≤ pp c := Nat.mod_le _ _
  simp (config := { decide := false, maxSteps := 1000000 }) (disch := first | assumption | exact nlg_i _ | exact nlg_r _ | exact nlg_n | omega | decide) only [r53_0, r53_1, r53_4, r53_5, r53_6, r53_7, r53_8, r53_9, r53_10, r53_11, r53_14, r53_15, r53_16, r53_17, r53_18, r53_19, r53_22, r53_23, r53_24, r53_25, r53_26, r53_27, r53_28, r53_29, st_g0_0, st_g0_1, st_g0_2, st_g0_3, st_g0_4, st_p0_4, st_g0_5, st_p0_5, st_g0_6, st_p0_6, st_g0_7, st_p0_7, st_v0, st_g1_0, st_g1_1, st_g1_2, st_g1_3, st_p1_3, st_v1, st_g7_0, st_g7_1, st_p7_1, st_g7_2, st_p7_2, st_v7, st_i2, st_is2, st_i3, st_is3, st_i4, st_is4, st_i5, st_is5, st_i6, st_is6, st_l8, st_ls8, st_y2, st_y3, st_y4, st_y8, st_o100_0, st_o100_1, st_o100_2, st_o100_3, st_o100_4, st_o100_5, st_o100_6, st_o100_7, st_q100_7, st_o100_8, st_q100_8, st_w100, st_o110_0, st_o110_1, st_w110, st_o129_0, st_o129_1, st_q129_1, st_o129_2, st_q129_2, st_w129, st_o205_0, st_o205_1, st_q205_1, st_o205_2, st_o205_3, st_q205_3, st_o205_4, st_q205_4, st_o205_5, st_q205_5, st_o205_6, st_q205_6, st_o205_7, st_q205_7, st_o205_8, st_q205_8, st_o205_9, st_q205_9, st_w205, st_o235_0, st_o235_1, st_o235_2, st_o235_3, st_o235_4, st_o235_5, st_o235_6, st_o235_7, st_q235_7, st_o235_8, st_q235_8, st_o235_9, st_o235_10, st_q235_10, st_o235_11, st_q235_11, st_o235_12, st_q235_12, st_o235_13, st_q235_13, st_o235_14, st_q235_14, st_o235_15, st_q235_15, st_o235_16, st_q235_16, st_o235_17, st_q235_17, st_o235_18, st_q235_18, st_o235_19, st_o235_20, st_o235_21, st_q235_21, st_o235_22, st_q235_22, st_o235_23, st_o235_24, st_q235_24, st_w235, st_a204, st_as204, st_a206, st_as206, st_a216, st_as216, st_a236, st_as236, st_a237, st_as237, st_a238, st_as238, st_a239, st_as239, st_a240, st_as240, st_a241, st_as241, st_a242, st_as242, st_a243, st_as243, st_a244, st_as244, st_a245, st_as245, st_a246, st_as246, st_r130, st_r203, nx_in, nx_clamp, nx_i2n, nx_l2n, nx_add, nx_sub, nx_pred, nx_mul, nx_lt, nx_le, nx_eq, nx_shl, nx_shr, nx_and1, nx_andm, nx_m1, nx_or, nx_dr, nx_rem, nx_kC, nx_ift, nx_iff, bd_3, bd_4, bd_s3, bd_s4, upN_e, nx_andm, ↓nif_lt_t, ↓nif_lt_f, ↓nif_le_t, ↓nif_le_f, ↓nif_eq_t, ↓nif_eq_f, ↓nif_ne_t, ↓nif_ne_f, Nat.one_mul, List.cons_append, List.nil_append, List.append_nil, Option.toList, if_true, if_false, Bool.false_eq_true, and_true, true_and, and_self]
theorem s47 (h : isG g = true) (hc : c < 12) {hh pp : Nat → Nat} {q k : Nat} (h1 : hh c + k ≤ 24) (h2 : pp c < 2 ^ hh c) (hk : q < 2 ^ k) : ev xs L 47 0 [.ref (g + 1), .int (nI c), .int (nI q), .int (nI k)] [] (hS (bd S g hh pp) t) = some (.inl none, hS (bd S g (upN hh c (hh c + k)) (upN pp c (pp c + q * 2 ^ hh c))) t) := by
  have b1 := z24 (by omega) h2
  have b2 := z24 h1 (zmt h2 hk)
  have b3 : pp c ||| q * 2 ^ hh c = pp c + q * 2 ^ hh c := zor h2
  simp (config := { decide := false, maxSteps := 1000000 }) (disch := first | assumption | exact nlg_i _ | exact nlg_r _ | exact nlg_n | omega | decide) only [r47_0, r47_1, r47_4, r47_5, r47_6, r47_7, r47_8, r47_9, r47_12, r47_13, r47_14, r47_15, r47_16, r47_17, r47_18, r47_21, r47_22, r47_23, r47_24, r47_25, r47_26, r47_27, st_g0_0, st_g0_1, st_g0_2, st_g0_3, st_g0_4, st_p0_4, st_g0_5, st_p0_5, st_g0_6, st_p0_6, st_g0_7, st_p0_7, st_v0, st_g1_0, st_g1_1, st_g1_2, st_g1_3, st_p1_3, st_v1, st_g7_0, st_g7_1, st_p7_1, st_g7_2, st_p7_2, st_v7, st_i2, st_is2, st_i3, st_is3, st_i4, st_is4, st_i5, st_is5, st_i6, st_is6, st_l8, st_ls8, st_y2, st_y3, st_y4, st_y8, st_o100_0, st_o100_1, st_o100_2, st_o100_3, st_o100_4, st_o100_5, st_o100_6, st_o100_7, st_q100_7, st_o100_8, st_q100_8, st_w100, st_o110_0, st_o110_1, st_w110, st_o129_0, st_o129_1, st_q129_1, st_o129_2, st_q129_2, st_w129, st_o205_0, st_o205_1, st_q205_1, st_o205_2, st_o205_3, st_q205_3, st_o205_4, st_q205_4, st_o205_5, st_q205_5, st_o205_6, st_q205_6, st_o205_7, st_q205_7, st_o205_8, st_q205_8, st_o205_9, st_q205_9, st_w205, st_o235_0, st_o235_1, st_o235_2, st_o235_3, st_o235_4, st_o235_5, st_o235_6, st_o235_7, st_q235_7, st_o235_8, st_q235_8, st_o235_9, st_o235_10, st_q235_10, st_o235_11, st_q235_11, st_o235_12, st_q235_12, st_o235_13, st_q235_13, st_o235_14, st_q235_14, st_o235_15, st_q235_15, st_o235_16, st_q235_16, st_o235_17, st_q235_17, st_o235_18, st_q235_18, st_o235_19, st_o235_20, st_o235_21, st_q235_21, st_o235_22, st_q235_22, st_o235_23, st_o235_24, st_q235_24, st_w235, st_a204, st_as204, st_a206, st_as206, st_a216, st_as216, st_a236, st_as236, st_a237, st_as237, st_a238, st_as238, st_a239, st_as239, st_a240, st_as240, st_a241, st_as241, st_a242, st_as242, st_a243, st_as243, st_a244, st_as244, st_a245, st_as245, st_a246, st_as246, st_r130, st_r203, nx_in, nx_clamp, nx_i2n, nx_l2n, nx_add, nx_sub, nx_pred, nx_mul, nx_lt, nx_le, nx_eq, nx_shl, nx_shr, nx_and1, nx_andm, nx_m1, nx_or, nx_dr, nx_rem, nx_kC, nx_ift, nx_iff, bd_3, bd_4, bd_s3, bd_s4, upN_e, b3, ↓nif_lt_t, ↓nif_lt_f, ↓nif_le_t, ↓nif_le_f, ↓nif_eq_t, ↓nif_eq_f, ↓nif_ne_t, ↓nif_ne_f, Nat.one_mul, List.cons_append, List.nil_append, List.append_nil, Option.toList, if_true, if_false, Bool.false_eq_true, and_true, true_and, and_self]
theorem s48 (h : isG g = true) (hc : c < 12) {hh pp : Nat → Nat} (h1 : hh c ≤ 16) (h0 : 1 ≤ hh c) (h2 : pp c < 2 ^ hh c) : ev xs L 48 0 [.ref (g + 1), .int (nI c), .null, .null] [] (hS (bd S g hh pp) t) = some (.inl none, hS (bd S g hh (upN pp c (pp c % 2 ^ (hh c - 1) * 2 + pp c / 2 ^ (hh c - 1)))) t) := by
  have b1 := z24 (by omega) h2
  have b2 : pp c % 2 ^ (hh c - 1) ≤ pp c := Nat.mod_le _ _
  have b3 := zdm (pp c) (hh c - 1)
  have b5 : pp c / 2 ^ (hh c - 1) < 2 ^ 1 := by
    rw [Nat.div_lt_iff_lt_mul (Nat.two_pow_pos _), ← Nat.pow_add, show 1 + (hh c - 1) = hh c by omega]
    exact h2
  have b4 : pp c % 2 ^ (hh c - 1) * 2 ^ 1 ||| pp c / 2 ^ (hh c - 1) = pp c % 2 ^ (hh c - 1) * 2 + pp c / 2 ^ (hh c - 1) := by
    rw [Nat.or_comm, zor b5]
    omega
  simp (config := { decide := false, maxSteps := 1000000 }) (disch := first | assumption | exact nlg_i _ | exact nlg_r _ | exact nlg_n | omega | decide) only [r48_0, r48_1, r48_4, r48_5, r48_6, r48_7, r48_8, r48_9, r48_10, r48_13, r48_14, r48_15, r48_16, r48_17, r48_18, r48_19, r48_22, r48_23, r48_24, r48_27, r48_28, r48_29, r48_30, r48_31, r48_32, r48_33, r48_34, r48_35, r48_36, r48_37, r48_38, r48_39, r48_40, st_g0_0, st_g0_1, st_g0_2, st_g0_3, st_g0_4, st_p0_4, st_g0_5, st_p0_5, st_g0_6, st_p0_6, st_g0_7, st_p0_7, st_v0, st_g1_0, st_g1_1, st_g1_2, st_g1_3, st_p1_3, st_v1, st_g7_0, st_g7_1, st_p7_1, st_g7_2, st_p7_2, st_v7, st_i2, st_is2, st_i3, st_is3, st_i4, st_is4, st_i5, st_is5, st_i6, st_is6, st_l8, st_ls8, st_y2, st_y3, st_y4, st_y8, st_o100_0, st_o100_1, st_o100_2, st_o100_3, st_o100_4, st_o100_5, st_o100_6, st_o100_7, st_q100_7, st_o100_8, st_q100_8, st_w100, st_o110_0, st_o110_1, st_w110, st_o129_0, st_o129_1, st_q129_1, st_o129_2, st_q129_2, st_w129, st_o205_0, st_o205_1, st_q205_1, st_o205_2, st_o205_3, st_q205_3, st_o205_4, st_q205_4, st_o205_5, st_q205_5, st_o205_6, st_q205_6, st_o205_7, st_q205_7, st_o205_8, st_q205_8, st_o205_9, st_q205_9, st_w205, st_o235_0, st_o235_1, st_o235_2, st_o235_3, st_o235_4, st_o235_5, st_o235_6, st_o235_7, st_q235_7, st_o235_8, st_q235_8, st_o235_9, st_o235_10, st_q235_10, st_o235_11, st_q235_11, st_o235_12, st_q235_12, st_o235_13, st_q235_13, st_o235_14, st_q235_14, st_o235_15, st_q235_15, st_o235_16, st_q235_16, st_o235_17, st_q235_17, st_o235_18, st_q235_18, st_o235_19, st_o235_20, st_o235_21, st_q235_21, st_o235_22, st_q235_22, st_o235_23, st_o235_24, st_q235_24, st_w235, st_a204, st_as204, st_a206, st_as206, st_a216, st_as216, st_a236, st_as236, st_a237, st_as237, st_a238, st_as238, st_a239, st_as239, st_a240, st_as240, st_a241, st_as241, st_a242, st_as242, st_a243, st_as243, st_a244, st_as244, st_a245, st_as245, st_a246, st_as246, st_r130, st_r203, nx_in, nx_clamp, nx_i2n, nx_l2n, nx_add, nx_sub, nx_pred, nx_mul, nx_lt, nx_le, nx_eq, nx_shl, nx_shr, nx_and1, nx_andm, nx_m1, nx_or, nx_dr, nx_rem, nx_kC, nx_ift, nx_iff, bd_3, bd_4, bd_s3, bd_s4, upN_e, b4, ↓nif_lt_t, ↓nif_lt_f, ↓nif_le_t, ↓nif_le_f, ↓nif_eq_t, ↓nif_eq_f, ↓nif_ne_t, ↓nif_ne_f, Nat.one_mul, List.cons_append, List.nil_append, List.append_nil, Option.toList, if_true, if_false, Bool.false_eq_true, and_true, true_and, and_self]
end XBD
