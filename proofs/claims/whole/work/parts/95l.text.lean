section XTX
variable {xs : Nat → Int32} {L : Nat} {S : xS} {O : Nat → Option xi_O} {a g z : Nat} {p : Option xi_O} {v : Value} {κo : xi_O → Option xi_R}
theorem hole_c (h : a < g ∨ g + 9 ≤ a) : hole (upO O a p) g = upO (hole O g) a p := by
  funext id
  unfold hole upO
  by_cases h1 : id = a
  · rw [if_pos h1, if_neg (by omega), if_pos h1]
  · rw [if_neg h1, if_neg h1]
/-- the store all of whose numbers are zero, but for some fields -/
def gt (x0 x2 : Value) (e : Int32) : xi_O := .inr (2, [x0, .int 0, x2, .int 0, .int e, .int 0, .int 0, .int 0, .int 0, .int 0])
theorem v15 (h1 : S.1 207 = z0) (h2 : S.2.1 207 = fun _ => 0) (h3 : S.2.2.1 206 = fun _ => 0) : ev xs L 15 0 [.ref 205] [] (ov (upO O 205 (some (gt .null .null 0))) (hS S (106, 106, z))) = some (.inl none, ov (upO (hole (upO O 206 none) 207) 205 (some (gt (.ref 206) (.ref 207) (-1)))) (hS (pg S 207 (rB (ly 12 (up2 z0 1 3 5)))) (116, 116, z + 417))) := by
  have hs : pg S 207 z0 = S := by rw [← h1, pg_self]
  have m6 : mkH S (100 + 106) = .inl (1, 300, .inl fun _ => 0) := by
    show (.inl (1, 300, .inl (fun j => bI (S.2.2.1 206 j))) : xi_O) = _
    rw [h3]
    rfl
  have a8 := fun O raw => r15_8 (xs := xs) (L := L) (.ref 205) 205 (nI 300) _ _ _ (al_bp (S := S) (O := O) (b := 205) (p := raw) (n := 106) (z := z) (rest := [.ref 205]) (show 300 ≤ 10000 by decide) m6 (by decide))
  have a19 := fun O n z => r15_19 (xs := xs) (L := L) (.ref 205) 205 _ _ _ (al_o (S := S) (O := O) (n := n) (z := z) (rest := [.ref 205]) (own := 2) (idx := 19) (ci := 1) (by decide +kernel))
  have e3 := fun O => v3 (xs := xs) (L := L) (S := S) (O := O) (g := 207) (n := 106 + 1 + 1) (z := z + 300 + 8) (by decide) (by decide) h2
  rw [hs] at e3
  have hd2 : xi_df 1 = [.null, .null, .null, .null, .int 0, .int 0, .int 0, .int 0] := rfl
  have hd : ([.null, .null, .null, .null, .int 0, .int 0, .int 0, .int 0] : List Value).length = 8 := rfl
  have hg : (.inr (1, [.null, .null, .null, .null, .int 0, .int 0, .int 0, .int 0]) : xi_O) = gm .null .null .null .null := rfl
  have i1 : (100 + (106 + 1) : Nat) = 207 := rfl
  have i0 : (100 + 106 : Nat) = 206 := rfl
  have hv : ∀ O κ hp, kVh (ov (upO O 207 (some (gm .null .null .null .null))) hp) 207 1 κ = κ := fun O κ hp => (ov_Vs upO_e κ).trans rfl
  have k0 : ∀ κo, kP (gt .null .null 0) 2 0 (.ref 206) κo = κo (gt (.ref 206) .null 0) := fun κo => rfl
  have k1 : ∀ κo, kP (gt (.ref 206) .null 0) 2 1 (.int (nI 0)) κo = κo (gt (.ref 206) .null 0) := fun κo => rfl
  have k2 : ∀ κo, kP (gt (.ref 206) .null 0) 2 2 (.ref 207) κo = κo (gt (.ref 206) (.ref 207) 0) := fun κo => rfl
  have k3 : ∀ κo, kP (gt (.ref 206) (.ref 207) 0) 2 3 (.int (nI 0)) κo = κo (gt (.ref 206) (.ref 207) 0) := fun κo => rfl
  have k4 : ∀ κo, kP (gt (.ref 206) (.ref 207) 0) 2 4 (.int (-1)) κo = κo (gt (.ref 206) (.ref 207) (-1)) := fun κo => rfl
  have hh : ∀ X w, hole (upO X 205 w) 207 = upO (hole X 207) 205 w := fun X w => hole_c (Or.inl (by decide))
  simp (config := { decide := false, maxSteps := 1000000 }) (disch := first | assumption | exact nlg_i _ | exact nlg_r _ | exact nlg_n | omega | decide) only [r15_0, r15_1, r15_4, r15_5, r15_10, r15_13, r15_14, r15_15, r15_18, r15_22, r15_23, r15_26, r15_29, r15_30, r15_31, r15_34, r15_35, r15_36, r15_39, st_g0_0, st_g0_1, st_g0_2, st_g0_3, st_g0_4, st_p0_4, st_g0_5, st_p0_5, st_g0_6, st_p0_6, st_g0_7, st_p0_7, st_v0, st_g1_0, st_g1_1, st_g1_2, st_g1_3, st_p1_3, st_v1, st_g7_0, st_g7_1, st_p7_1, st_g7_2, st_p7_2, st_v7, st_i2, st_is2, st_i3, st_is3, st_i4, st_is4, st_i5, st_is5, st_i6, st_is6, st_l8, st_ls8, st_y2, st_y3, st_y4, st_y8, st_o100_0, st_o100_1, st_o100_2, st_o100_3, st_o100_4, st_o100_5, st_o100_6, st_o100_7, st_q100_7, st_o100_8, st_q100_8, st_w100, st_o110_0, st_o110_1, st_w110, st_o129_0, st_o129_1, st_q129_1, st_o129_2, st_q129_2, st_w129, st_o205_0, st_o205_1, st_q205_1, st_o205_2, st_o205_3, st_q205_3, st_o205_4, st_q205_4, st_o205_5, st_q205_5, st_o205_6, st_q205_6, st_o205_7, st_q205_7, st_o205_8, st_q205_8, st_o205_9, st_q205_9, st_w205, st_o235_0, st_o235_1, st_o235_2, st_o235_3, st_o235_4, st_o235_5, st_o235_6, st_o235_7, st_q235_7, st_o235_8, st_q235_8, st_o235_9, st_o235_10, st_q235_10, st_o235_11, st_q235_11, st_o235_12, st_q235_12, st_o235_13, st_q235_13, st_o235_14, st_q235_14, st_o235_15, st_q235_15, st_o235_16, st_q235_16, st_o235_17, st_q235_17, st_o235_18, st_q235_18, st_o235_19, st_o235_20, st_o235_21, st_q235_21, st_o235_22, st_q235_22, st_o235_23, st_o235_24, st_q235_24, st_w235, st_a204, st_as204, st_a206, st_as206, st_a216, st_as216, st_a236, st_as236, st_a237, st_as237, st_a238, st_as238, st_a239, st_as239, st_a240, st_as240, st_a241, st_as241, st_a242, st_as242, st_a243, st_as243, st_a244, st_as244, st_a245, st_as245, st_a246, st_as246, st_r130, st_r203, nx_in, nx_clamp, nx_i2n, nx_l2n, nx_add, nx_sub, nx_pred, nx_mul, nx_lt, nx_le, nx_eq, nx_shl, nx_shr, nx_and1, nx_andm, nx_m1, nx_or, nx_dr, nx_rem, nx_kC, nx_ift, nx_iff, a8, a19, i0, i1, hd2, hd, hg, hv, e3, hh, ov_Ps1, k0, k1, k2, k3, k4, ↓nif_lt_t, ↓nif_lt_f, ↓nif_le_t, ↓nif_le_f, ↓nif_eq_t, ↓nif_eq_f, ↓nif_ne_t, ↓nif_ne_f, Nat.one_mul, List.cons_append, List.nil_append, List.append_nil, Option.toList, if_true, if_false, Bool.false_eq_true, and_true, true_and, and_self]
end XTX
