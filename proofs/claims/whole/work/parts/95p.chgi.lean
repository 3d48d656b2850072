section XCI
variable {xs : Nat → Int32} {L : Nat} {S : xS} {O : Nat → Option xi_O} {z : Nat}
theorem v0L (h1 : ∀ k, k < 8 → S.1 (131 + 9 * k) = z0) (h2 : ∀ k, k < 8 → S.2.1 (131 + 9 * k) = fun _ => 0) : ∀ m k, m + k = 8 → ev xs L 0 25 [.ref 129, .int (nI k)] [] (ov (wk O k) (hS (gk8 S k) (31 + 9 * k, 31 + 9 * k, z + 117 * k))) = some (.inl none, ov (wk O 8) (hS (gk8 S 8) (103, 103, z + 936))) := by
  intro m
  induction m with
  | zero =>
    intro k h
    have hk : k = 8 := by omega
    subst hk
    simp (config := { decide := false, maxSteps := 1000000 }) (disch := first | assumption | exact nlg_i _ | exact nlg_r _ | exact nlg_n | omega | decide) only [r0_25, r0_26, r0_28, r0_31, r0_32, r0_35, r0_36, r0_39, r0_40, r0_43, r0_44, r0_47, r0_50, st_g0_0, st_g0_1, st_g0_2, st_g0_3, st_g0_4, st_p0_4, st_g0_5, st_p0_5, st_g0_6, st_p0_6, st_g0_7, st_p0_7, st_v0, st_g1_0, st_g1_1, st_g1_2, st_g1_3, st_p1_3, st_v1, st_g7_0, st_g7_1, st_p7_1, st_g7_2, st_p7_2, st_v7, st_i2, st_is2, st_i3, st_is3, st_i4, st_is4, st_i5, st_is5, st_i6, st_is6, st_l8, st_ls8, st_y2, st_y3, st_y4, st_y8, st_o100_0, st_o100_1, st_o100_2, st_o100_3, st_o100_4, st_o100_5, st_o100_6, st_o100_7, st_q100_7, st_o100_8, st_q100_8, st_w100, st_o110_0, st_o110_1, st_w110, st_o129_0, st_o129_1, st_q129_1, st_o129_2, st_q129_2, st_w129, st_o205_0, st_o205_1, st_q205_1, st_o205_2, st_o205_3, st_q205_3, st_o205_4, st_q205_4, st_o205_5, st_q205_5, st_o205_6, st_q205_6, st_o205_7, st_q205_7, st_o205_8, st_q205_8, st_o205_9, st_q205_9, st_w205, st_o235_0, st_o235_1, st_o235_2, st_o235_3, st_o235_4, st_o235_5, st_o235_6, st_o235_7, st_q235_7, st_o235_8, st_q235_8, st_o235_9, st_o235_10, st_q235_10, st_o235_11, st_q235_11, st_o235_12, st_q235_12, st_o235_13, st_q235_13, st_o235_14, st_q235_14, st_o235_15, st_q235_15, st_o235_16, st_q235_16, st_o235_17, st_q235_17, st_o235_18, st_q235_18, st_o235_19, st_o235_20, st_o235_21, st_q235_21, st_o235_22, st_q235_22, st_o235_23, st_o235_24, st_q235_24, st_w235, st_a204, st_as204, st_a206, st_as206, st_a216, st_as216, st_a236, st_as236, st_a237, st_as237, st_a238, st_as238, st_a239, st_as239, st_a240, st_as240, st_a241, st_as241, st_a242, st_as242, st_a243, st_as243, st_a244, st_as244, st_a245, st_as245, st_a246, st_as246, st_r130, st_r203, nx_in, nx_clamp, nx_i2n, nx_l2n, nx_add, nx_sub, nx_pred, nx_mul, nx_lt, nx_le, nx_eq, nx_shl, nx_shr, nx_and1, nx_andm, nx_m1, nx_or, nx_dr, nx_rem, nx_kC, nx_ift, nx_iff, ↓nif_lt_t, ↓nif_lt_f, ↓nif_le_t, ↓nif_le_f, ↓nif_eq_t, ↓nif_eq_f, ↓nif_ne_t, ↓nif_ne_f, Nat.one_mul, List.cons_append, List.nil_append, List.append_nil, Option.toList, if_true, if_false, Bool.false_eq_true, and_true, true_and, and_self]
  | succ m ih =>
    intro k h
    have hk : k < 8 := by omega
    have e1 := ih (k + 1) (by omega)
    have hF : ∀ κ, kFh (ov (wk O k) (hS (gk8 S k) (31 + 9 * k, 31 + 9 * k, z + 117 * k))) 129 0 0 κ = κ (.ref 130) := fun κ => (ov_Fs (o := gc (.ref 130)) rfl κ).trans rfl
    have i1 : 100 + (31 + 9 * k) = 131 + 9 * k := by omega
    have a36 := r0_36 (xs := xs) (L := L) (.ref 129) (.int (nI k)) 130 (nI k) _ _ _ (al_o (S := gk8 S k) (O := wk O k) (n := 31 + 9 * k) (z := z + 117 * k) (rest := [.int (nI k), .ref 130]) (own := 0) (idx := 9) (ci := 1) (by decide +kernel))
    rw [i1] at a36
    have hg0 : (gk8 S k).1 (131 + 9 * k) = z0 := by
      show (if 131 ≤ 131 + 9 * k ∧ 131 + 9 * k < 131 + 9 * k ∧ (131 + 9 * k - 131) % 9 = 0 then rI else S.1 (131 + 9 * k)) = z0
      rw [if_neg (by omega)]
      exact h1 k hk
    have e3 := v3z (xs := xs) (L := L) (S := gk8 S k) (O := wk O k) (g := 131 + 9 * k) (n := 31 + 9 * k + 1) (z := z + 117 * k + 8) (isG_c hk) (by omega) hg0 (h2 k hk)
    rw [gk8_s hk] at e3
    have hv : ∀ κ hp, kVh (ov (upO (wk O k) (131 + 9 * k) (some (gm .null .null .null .null))) hp) (131 + 9 * k) 1 κ = κ := fun κ hp => (ov_Vs upO_e κ).trans rfl
    have hd2 : xi_df 1 = [.null, .null, .null, .null, .int 0, .int 0, .int 0, .int 0] := rfl
    have hd : ([.null, .null, .null, .null, .int 0, .int 0, .int 0, .int 0] : List Value).length = 8 := rfl
    have hg : (.inr (1, [.null, .null, .null, .null, .int 0, .int 0, .int 0, .int 0]) : xi_O) = gm .null .null .null .null := rfl
    have hhole : hole (wk O k) (131 + 9 * k) 130 = some (car k) := by
      unfold hole
      rw [if_neg (by omega)]
      rfl
    have hhg : hole (wk O k) (131 + 9 * k) (131 + 9 * k) = none := if_pos ⟨by omega, by omega⟩
    have hob : ∃ q, (ov (hole (wk O k) (131 + 9 * k)) (hS (gk8 S (k + 1)) (31 + 9 * k + 1 + 8, 31 + 9 * k + 1 + 8, z + 117 * k + 8 + 109))).1 (131 + 9 * k) = .inr (1, q) := by
      rw [ov_n hhg]
      have h0 := mkH_g (S := gk8 S (k + 1)) (isG_c hk) 0 (by decide)
      rw [Nat.add_zero] at h0
      exact ⟨_, h0⟩
    obtain ⟨q, hq⟩ := hob
    have aa := aa_ov (f := fun j => if j < k then some (131 + 9 * j) else none) (a := 130) (rest := []) hhole hq hk (by decide)
    rw [wk_s hk] at aa
    have a43 := r0_43 (xs := xs) (L := L) (.ref 129) (.int (nI k)) 130 (nI k) (131 + 9 * k) _ _ aa
    have t1 : ((31 + 9 * k + 1 + 8, 31 + 9 * k + 1 + 8, z + 117 * k + 8 + 109) : Nat × Nat × Nat) = (31 + 9 * (k + 1), 31 + 9 * (k + 1), z + 117 * (k + 1)) := by
      refine Prod.ext ?_ (Prod.ext ?_ ?_)
      · show 31 + 9 * k + 1 + 8 = 31 + 9 * (k + 1); omega
      · show 31 + 9 * k + 1 + 8 = 31 + 9 * (k + 1); omega
      · show z + 117 * k + 8 + 109 = z + 117 * (k + 1); omega
    rw [t1] at e3 a43
    rw [r0_25]
    simp (config := { decide := false, maxSteps := 1000000 }) (disch := first | assumption | exact nlg_i _ | exact nlg_r _ | exact nlg_n | omega | decide) only [r0_26, r0_28, r0_31, r0_32, r0_35, r0_39, r0_40, r0_44, r0_47, st_g0_0, st_g0_1, st_g0_2, st_g0_3, st_g0_4, st_p0_4, st_g0_5, st_p0_5, st_g0_6, st_p0_6, st_g0_7, st_p0_7, st_v0, st_g1_0, st_g1_1, st_g1_2, st_g1_3, st_p1_3, st_v1, st_g7_0, st_g7_1, st_p7_1, st_g7_2, st_p7_2, st_v7, st_i2, st_is2, st_i3, st_is3, st_i4, st_is4, st_i5, st_is5, st_i6, st_is6, st_l8, st_ls8, st_y2, st_y3, st_y4, st_y8, st_o100_0, st_o100_1, st_o100_2, st_o100_3, st_o100_4, st_o100_5, st_o100_6, st_o100_7, st_q100_7, st_o100_8, st_q100_8, st_w100, st_o110_0, st_o110_1, st_w110, st_o129_0, st_o129_1, st_q129_1, st_o129_2, st_q129_2, st_w129, st_o205_0, st_o205_1, st_q205_1, st_o205_2, st_o205_3, st_q205_3, st_o205_4, st_q205_4, st_o205_5, st_q205_5, st_o205_6, st_q205_6, st_o205_7, st_q205_7, st_o205_8, st_q205_8, st_o205_9, st_q205_9, st_w205, st_o235_0, st_o235_1, st_o235_2, st_o235_3, st_o235_4, st_o235_5, st_o235_6, st_o235_7, st_q235_7, st_o235_8, st_q235_8, st_o235_9, st_o235_10, st_q235_10, st_o235_11, st_q235_11, st_o235_12, st_q235_12, st_o235_13, st_q235_13, st_o235_14, st_q235_14, st_o235_15, st_q235_15, st_o235_16, st_q235_16, st_o235_17, st_q235_17, st_o235_18, st_q235_18, st_o235_19, st_o235_20, st_o235_21, st_q235_21, st_o235_22, st_q235_22, st_o235_23, st_o235_24, st_q235_24, st_w235, st_a204, st_as204, st_a206, st_as206, st_a216, st_as216, st_a236, st_as236, st_a237, st_as237, st_a238, st_as238, st_a239, st_as239, st_a240, st_as240, st_a241, st_as241, st_a242, st_as242, st_a243, st_as243, st_a244, st_as244, st_a245, st_as245, st_a246, st_as246, st_r130, st_r203, nx_in, nx_clamp, nx_i2n, nx_l2n, nx_add, nx_sub, nx_pred, nx_mul, nx_lt, nx_le, nx_eq, nx_shl, nx_shr, nx_and1, nx_andm, nx_m1, nx_or, nx_dr, nx_rem, nx_kC, nx_ift, nx_iff, hF, a36, hd2, hd, hg, hv, e3, a43, e1, ↓nif_lt_t, ↓nif_lt_f, ↓nif_le_t, ↓nif_le_f, ↓nif_eq_t, ↓nif_eq_f, ↓nif_ne_t, ↓nif_ne_f, Nat.one_mul, List.cons_append, List.nil_append, List.append_nil, Option.toList, if_true, if_false, Bool.false_eq_true, and_true, true_and, and_self]
end XCI
