section XC0
variable {xs : Nat → Int32} {L : Nat} {S : xS} {O : Nat → Option xi_O} {z : Nat}
theorem v0 (h1 : ∀ k, k < 8 → S.1 (131 + 9 * k) = z0) (h2 : ∀ k, k < 8 → S.2.1 (131 + 9 * k) = fun _ => 0) : ev xs L 0 0 [.ref 129, .null] [] (ov (upO O 129 (some (gc .null))) (hS S (30, 30, z))) = some (.inl none, ov (wk O 8) (hS (gk8 S 8) (103, 103, z + 8 + 936))) := by
  have a7 := r0_7 (xs := xs) (L := L) (.ref 129) .null 129 (nI 8) _ _ _ (al_q (S := S) (O := upO O 129 (some (gc .null))) (n := 30) (z := z) (k := 8) (rest := [.ref 129]) (own := 0) (idx := 9) (by decide) (by decide +kernel))
  have i1 : (100 + 30 : Nat) = 130 := rfl
  rw [i1] at a7
  have e1 := v0L (xs := xs) (L := L) (S := S) (O := O) (z := z + 8) h1 h2 8 0 rfl
  have hS0 : gk8 S 0 = S := by
    refine Prod.ext ?_ rfl
    funext g
    exact if_neg (by omega)
  have hW : wk O 0 = upO (upO O 129 (some (gc (.ref 130)))) 130 (some (.inl (4, 8, .inr (.inr (.inr (.inr fun _ => none)))))) := by
    have h0 : hk8 O 0 = O := by
      funext id
      exact if_neg (by omega)
    unfold wk car
    rw [h0]
    congr 1
  rw [hS0, hW] at e1
  have k0 : ∀ κo, kP (gc .null) 0 0 (.ref 130) κo = κo (gc (.ref 130)) := fun κo => rfl
  have k1 : ∀ κo, kP (gc (.ref 130)) 0 1 (.int (nI 0)) κo = κo (gc (.ref 130)) := fun κo => rfl
  have k2 : ∀ κo, kP (gc (.ref 130)) 0 2 (.int (nI 0)) κo = κo (gc (.ref 130)) := fun κo => rfl
  simp (config := { decide := false, maxSteps := 1000000 }) (disch := first | assumption | exact nlg_i _ | exact nlg_r _ | exact nlg_n | omega | decide) only [r0_0, r0_1, r0_4, r0_5, r0_10, r0_13, r0_14, r0_15, r0_18, r0_19, r0_20, r0_23, r0_24, st_g0_0, st_g0_1, st_g0_2, st_g0_3, st_g0_4, st_p0_4, st_g0_5, st_p0_5, st_g0_6, st_p0_6, st_g0_7, st_p0_7, st_v0, st_g1_0, st_g1_1, st_g1_2, st_g1_3, st_p1_3, st_v1, st_g7_0, st_g7_1, st_p7_1, st_g7_2, st_p7_2, st_v7, st_i2, st_is2, st_i3, st_is3, st_i4, st_is4, st_i5, st_is5, st_i6, st_is6, st_l8, st_ls8, st_y2, st_y3, st_y4, st_y8, st_o100_0, st_o100_1, st_o100_2, st_o100_3, st_o100_4, st_o100_5, st_o100_6, st_o100_7, st_q100_7, st_o100_8, st_q100_8, st_w100, st_o110_0, st_o110_1, st_w110, st_o129_0, st_o129_1, st_q129_1, st_o129_2, st_q129_2, st_w129, st_o205_0, st_o205_1, st_q205_1, st_o205_2, st_o205_3, st_q205_3, st_o205_4, st_q205_4, st_o205_5, st_q205_5, st_o205_6, st_q205_6, st_o205_7, st_q205_7, st_o205_8, st_q205_8, st_o205_9, st_q205_9, st_w205, st_o235_0, st_o235_1, st_o235_2, st_o235_3, st_o235_4, st_o235_5, st_o235_6, st_o235_7, st_q235_7, st_o235_8, st_q235_8, st_o235_9, st_o235_10, st_q235_10, st_o235_11, st_q235_11, st_o235_12, st_q235_12, st_o235_13, st_q235_13, st_o235_14, st_q235_14, st_o235_15, st_q235_15, st_o235_16, st_q235_16, st_o235_17, st_q235_17, st_o235_18, st_q235_18, st_o235_19, st_o235_20, st_o235_21, st_q235_21, st_o235_22, st_q235_22, st_o235_23, st_o235_24, st_q235_24, st_w235, st_a204, st_as204, st_a206, st_as206, st_a216, st_as216, st_a236, st_as236, st_a237, st_as237, st_a238, st_as238, st_a239, st_as239, st_a240, st_as240, st_a241, st_as241, st_a242, st_as242, st_a243, st_as243, st_a244, st_as244, st_a245, st_as245, st_a246, st_as246, st_r130, st_r203, nx_in, nx_clamp, nx_i2n, nx_l2n, nx_add, nx_sub, nx_pred, nx_mul, nx_lt, nx_le, nx_eq, nx_shl, nx_shr, nx_and1, nx_andm, nx_m1, nx_or, nx_dr, nx_rem, nx_kC, nx_ift, nx_iff, a7, ov_Ps2, k0, k1, k2, e1, ↓nif_lt_t, ↓nif_lt_f, ↓nif_le_t, ↓nif_le_f, ↓nif_eq_t, ↓nif_eq_f, ↓nif_ne_t, ↓nif_ne_f, Nat.one_mul, List.cons_append, List.nil_append, List.append_nil, Option.toList, if_true, if_false, Bool.false_eq_true, and_true, true_and, and_self]
end XC0
