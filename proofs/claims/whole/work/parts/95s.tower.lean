section XT1
variable {xs : Nat → Int32} {L : Nat} {S : xS} {O O' : Nat → Option xi_O} {hp : xi_H} {a b k n z : Nat} {o : xi_O} {p : Option xi_O} {rest : List Value} {t : Nat × Nat × Nat}
def sP : xS := pg (pg (pg Z0 101 rI) 111 rI) 120 rI
theorem v83b : ev xs L 83 15 [.ref 100, .null] [] (ov (upO (Dd 10) 100 (some (tr (.ref 101) .null .null .null .null .null .null 0))) (hS (pg Z0 101 rI) (10, 10, 126))) = ev xs L 83 26 [.ref 100, .null] [] (ov (upO (Dd 29) 100 (some (tr (.ref 101) (.ref 110) .null .null .null .null .null 0))) (hS sP (29, 29, 362))) := by
  have a16 : ev xs L 83 16 [.ref 100, .null] [.ref 100] (ov (upO (Dd 10) 100 (some (tr (.ref 101) .null .null .null .null .null .null 0))) (hS (pg Z0 101 rI) (10, 10, 126))) = ev xs L 83 19 [.ref 100, .null] [.ref 110, .ref 100] (ov (upO (upO (Dd 10) 100 (some (tr (.ref 101) .null .null .null .null .null .null 0))) 110 (some (gs .null .null))) (hS (pg Z0 101 rI) (11, 11, 128))) := r83_16 (xs := xs) (L := L) _ _ _ _ _ _ (al_o (S := pg Z0 101 rI) (O := upO (Dd 10) 100 (some (tr (.ref 101) .null .null .null .null .null .null 0))) (n := 10) (z := 126) (rest := [.ref 100]) (own := 6) (idx := 16) (ci := 5) (by decide +kernel))
  have e3 := fun p => v73 (xs := xs) (L := L) (S := pg Z0 101 rI) (O := upO (Dd 10) 100 p) (z := 128) rfl rfl rfl rfl
  have ho : ∀ p t, ov (upO (hole (hole (upO (Dd 10) 100 p) 111) 120) 110 (some (gs (.ref 111) (.ref 120)))) (hS (pg (pg (pg Z0 101 rI) 111 rI) 120 rI) t) = ov (upO (Dd 29) 100 p) (hS sP t) := by
    intro p t
    refine ov_pc rfl rfl (fun id hi => ?_)
    unfold hole upO Dd
    repeat' split
    all_goals first | rfl | omega
  have hv : ∀ O κ hp, kVh (ov (upO O 110 (some (gs .null .null))) hp) 110 5 κ = κ := fun O κ hp => (ov_Vs upO_e κ).trans rfl
  have k0 : ∀ κo, kP (tr (.ref 101) .null .null .null .null .null .null 0) 6 1 (.ref 110) κo = κo (tr (.ref 101) (.ref 110) .null .null .null .null .null 0) := fun κo => rfl
  simp only [ho] at e3
  simp (config := { decide := false, maxSteps := 1000000 }) (disch := first | assumption | exact nlg_i _ | exact nlg_r _ | exact nlg_n | omega | decide) only [r83_15, r83_19, r83_20, r83_23, st_g0_0, st_g0_1, st_g0_2, st_g0_3, st_g0_4, st_p0_4, st_g0_5, st_p0_5, st_g0_6, st_p0_6, st_g0_7, st_p0_7, st_v0, st_g1_0, st_g1_1, st_g1_2, st_g1_3, st_p1_3, st_v1, st_g7_0, st_g7_1, st_p7_1, st_g7_2, st_p7_2, st_v7, st_i2, st_is2, st_i3, st_is3, st_i4, st_is4, st_i5, st_is5, st_i6, st_is6, st_l8, st_ls8, st_y2, st_y3, st_y4, st_y8, st_o100_0, st_o100_1, st_o100_2, st_o100_3, st_o100_4, st_o100_5, st_o100_6, st_o100_7, st_q100_7, st_o100_8, st_q100_8, st_w100, st_o110_0, st_o110_1, st_w110, st_o129_0, st_o129_1, st_q129_1, st_o129_2, st_q129_2, st_w129, st_o205_0, st_o205_1, st_q205_1, st_o205_2, st_o205_3, st_q205_3, st_o205_4, st_q205_4, st_o205_5, st_q205_5, st_o205_6, st_q205_6, st_o205_7, st_q205_7, st_o205_8, st_q205_8, st_o205_9, st_q205_9, st_w205, st_o235_0, st_o235_1, st_o235_2, st_o235_3, st_o235_4, st_o235_5, st_o235_6, st_o235_7, st_q235_7, st_o235_8, st_q235_8, st_o235_9, st_o235_10, st_q235_10, st_o235_11, st_q235_11, st_o235_12, st_q235_12, st_o235_13, st_q235_13, st_o235_14, st_q235_14, st_o235_15, st_q235_15, st_o235_16, st_q235_16, st_o235_17, st_q235_17, st_o235_18, st_q235_18, st_o235_19, st_o235_20, st_o235_21, st_q235_21, st_o235_22, st_q235_22, st_o235_23, st_o235_24, st_q235_24, st_w235, st_a204, st_as204, st_a206, st_as206, st_a216, st_as216, st_a236, st_as236, st_a237, st_as237, st_a238, st_as238, st_a239, st_as239, st_a240, st_as240, st_a241, st_as241, st_a242, st_as242, st_a243, st_as243, st_a244, st_as244, st_a245, st_as245, st_a246, st_as246, st_r130, st_r203, nx_in, nx_clamp, nx_i2n, nx_l2n, nx_add, nx_sub, nx_pred, nx_mul, nx_lt, nx_le, nx_eq, nx_shl, nx_shr, nx_and1, nx_andm, nx_m1, nx_or, nx_dr, nx_rem, nx_kC, nx_ift, nx_iff, a16, hv, e3, ov_Ps1, k0, ↓nif_lt_t, ↓nif_lt_f, ↓nif_le_t, ↓nif_le_f, ↓nif_eq_t, ↓nif_eq_f, ↓nif_ne_t, ↓nif_ne_f, Nat.one_mul, List.cons_append, List.nil_append, List.append_nil, Option.toList, if_true, if_false, Bool.false_eq_true, and_true, true_and, and_self]
def sQ : xS := gk8 sP 8
theorem v83c : ev xs L 83 26 [.ref 100, .null] [] (ov (upO (Dd 29) 100 (some (tr (.ref 101) (.ref 110) .null .null .null .null .null 0))) (hS sP (29, 29, 362))) = ev xs L 83 37 [.ref 100, .null] [] (ov (upO (Dd 103) 100 (some (tr (.ref 101) (.ref 110) (.ref 129) .null .null .null .null 0))) (hS sQ (103, 103, 1309))) := by
  have a27 : ev xs L 83 27 [.ref 100, .null] [.ref 100] (ov (upO (Dd 29) 100 (some (tr (.ref 101) (.ref 110) .null .null .null .null .null 0))) (hS sP (29, 29, 362))) = ev xs L 83 30 [.ref 100, .null] [.ref 129, .ref 100] (ov (upO (upO (Dd 29) 100 (some (tr (.ref 101) (.ref 110) .null .null .null .null .null 0))) 129 (some (gc .null))) (hS sP (30, 30, 365))) := r83_27 (xs := xs) (L := L) _ _ _ _ _ _ (al_o (S := sP) (O := upO (Dd 29) 100 (some (tr (.ref 101) (.ref 110) .null .null .null .null .null 0))) (n := 29) (z := 362) (rest := [.ref 100]) (own := 6) (idx := 23) (ci := 0) (by decide +kernel))
  have e3 := fun p => v0 (xs := xs) (L := L) (S := sP) (O := upO (Dd 29) 100 p) (z := 365) (fun k hk => by
    show (if 131 + 9 * k = 120 then rI else if 131 + 9 * k = 111 then rI else if 131 + 9 * k = 101 then rI else z0) = z0
    rw [if_neg (by omega), if_neg (by omega), if_neg (by omega)]) (fun k hk => rfl)
  have ho : ∀ p t, ov (wk (upO (Dd 29) 100 p) 8) (hS (gk8 sP 8) t) = ov (upO (Dd 103) 100 p) (hS sQ t) := by
    intro p t
    unfold wk
    have h1 : ov (upO (upO (hk8 (upO (Dd 29) 100 p) 8) 129 (some (gc (.ref 130)))) 130 (some (car 8))) (hS (gk8 sP 8) t) = ov (upO (upO (hk8 (upO (Dd 29) 100 p) 8) 129 (some (gc (.ref 130)))) 130 none) (hS (gk8 sP 8) t) := ov_pc rfl rfl (fun id hi => upO_n hi)
    rw [h1, ← upO_c (a := 129) (b := 130) (by decide)]
    refine ov_pc rfl rfl (fun id hi => ?_)
    simp only [hk8, upO, Dd]
    repeat' split
    all_goals first | rfl | omega
  have hv : ∀ O κ hp, kVh (ov (upO O 129 (some (gc .null))) hp) 129 0 κ = κ := fun O κ hp => (ov_Vs upO_e κ).trans rfl
  have k0 : ∀ κo, kP (tr (.ref 101) (.ref 110) .null .null .null .null .null 0) 6 2 (.ref 129) κo = κo (tr (.ref 101) (.ref 110) (.ref 129) .null .null .null .null 0) := fun κo => rfl
  have hn : (365 + 8 + 936 : Nat) = 1309 := rfl
  simp only [ho, hn] at e3
  simp (config := { decide := false, maxSteps := 1000000 }) (disch := first | assumption | exact nlg_i _ | exact nlg_r _ | exact nlg_n | omega | decide) only [r83_26, r83_30, r83_31, r83_34, st_g0_0, st_g0_1, st_g0_2, st_g0_3, st_g0_4, st_p0_4, st_g0_5, st_p0_5, st_g0_6, st_p0_6, st_g0_7, st_p0_7, st_v0, st_g1_0, st_g1_1, st_g1_2, st_g1_3, st_p1_3, st_v1, st_g7_0, st_g7_1, st_p7_1, st_g7_2, st_p7_2, st_v7, st_i2, st_is2, st_i3, st_is3, st_i4, st_is4, st_i5, st_is5, st_i6, st_is6, st_l8, st_ls8, st_y2, st_y3, st_y4, st_y8, st_o100_0, st_o100_1, st_o100_2, st_o100_3, st_o100_4, st_o100_5, st_o100_6, st_o100_7, st_q100_7, st_o100_8, st_q100_8, st_w100, st_o110_0, st_o110_1, st_w110, st_o129_0, st_o129_1, st_q129_1, st_o129_2, st_q129_2, st_w129, st_o205_0, st_o205_1, st_q205_1, st_o205_2, st_o205_3, st_q205_3, st_o205_4, st_q205_4, st_o205_5, st_q205_5, st_o205_6, st_q205_6, st_o205_7, st_q205_7, st_o205_8, st_q205_8, st_o205_9, st_q205_9, st_w205, st_o235_0, st_o235_1, st_o235_2, st_o235_3, st_o235_4, st_o235_5, st_o235_6, st_o235_7, st_q235_7, st_o235_8, st_q235_8, st_o235_9, st_o235_10, st_q235_10, st_o235_11, st_q235_11, st_o235_12, st_q235_12, st_o235_13, st_q235_13, st_o235_14, st_q235_14, st_o235_15, st_q235_15, st_o235_16, st_q235_16, st_o235_17, st_q235_17, st_o235_18, st_q235_18, st_o235_19, st_o235_20, st_o235_21, st_q235_21, st_o235_22, st_q235_22, st_o235_23, st_o235_24, st_q235_24, st_w235, st_a204, st_as204, st_a206, st_as206, st_a216, st_as216, st_a236, st_as236, st_a237, st_as237, st_a238, st_as238, st_a239, st_as239, st_a240, st_as240, st_a241, st_as241, st_a242, st_as242, st_a243, st_as243, st_a244, st_as244, st_a245, st_as245, st_a246, st_as246, st_r130, st_r203, nx_in, nx_clamp, nx_i2n, nx_l2n, nx_add, nx_sub, nx_pred, nx_mul, nx_lt, nx_le, nx_eq, nx_shl, nx_shr, nx_and1, nx_andm, nx_m1, nx_or, nx_dr, nx_rem, nx_kC, nx_ift, nx_iff, a27, hv, e3, ov_Ps1, k0, ↓nif_lt_t, ↓nif_lt_f, ↓nif_le_t, ↓nif_le_f, ↓nif_eq_t, ↓nif_eq_f, ↓nif_ne_t, ↓nif_ne_f, Nat.one_mul, List.cons_append, List.nil_append, List.append_nil, Option.toList, if_true, if_false, Bool.false_eq_true, and_true, true_and, and_self]
def sar (k : Nat) : xi_O := .inl (4, 2, .inr (.inr (.inr (.inr fun j => if j < k then some (217 + 9 * j) else none))))
def Ds (n k : Nat) : Nat → Option xi_O := fun id => if id = 203 then some (sar k) else Dd n id
theorem sar_s (k : Nat) : (.inl (4, 2, .inr (.inr (.inr (.inr (va_up (fun j => if j < k then some (217 + 9 * j) else none) k (some (217 + 9 * k))))))) : xi_O) = sar (k + 1) := by
  have h1 : va_up (fun j => if j < k then some (217 + 9 * j) else none) k (some (217 + 9 * k)) = fun j => if j < k + 1 then some (217 + 9 * j) else none := by
    funext j
    unfold va_up
    by_cases h : j = k
    · rw [h]
      simp
    · simp only [h, if_false]
      by_cases h2 : j < k
      · rw [if_pos h2, if_pos (by omega)]
      · rw [if_neg h2, if_neg (by omega)]
  rw [h1]
  rfl
theorem sar_0 : (.inl (4, 2, .inr (.inr (.inr (.inr fun _ => none)))) : xi_O) = sar 0 := by
  have h1 : (fun _ : Nat => (none : Option Nat)) = fun j => if j < 0 then some (217 + 9 * j) else none := by
    funext j
    rw [if_neg (by omega)]
  rw [h1]
  rfl
end XT1
