section XSR
variable {xs : Nat → Int32} {L : Nat} {S : xS} {O : Nat → Option xi_O} {a g z : Nat} {p : Option xi_O} {v : Value} {κo : xi_O → Option xi_R}
/-- a game as it begins -/
def rI : xG := rB (ly 12 (up2 z0 1 3 5))
def gs (x0 x1 : Value) : xi_O := .inr (5, [x0, x1])
/-- a game's constructor on a store in which the game is still zero -/
theorem v3z {g n z : Nat} (hG : isG g = true) (hn : 100 + n = g + 1) (h1 : S.1 g = z0) (hk : S.2.1 g = fun _ => 0) : ev xs L 3 0 [.ref g] [] (ov (upO O g (some (gm .null .null .null .null))) (hS S (n, n, z))) = some (.inl none, ov (hole O g) (hS (pg S g rI) (n + 8, n + 8, z + 109))) := by
  have e := v3 (xs := xs) (L := L) (S := S) (O := O) (z := z) hG hn hk
  have hs : pg S g z0 = S := by rw [← h1, pg_self]
  rw [hs] at e
  exact e
theorem v73 (h1 : S.1 111 = z0) (h2 : S.2.1 111 = fun _ => 0) (h3 : S.1 120 = z0) (h4 : S.2.1 120 = fun _ => 0) : ev xs L 73 0 [.ref 110] [] (ov (upO O 110 (some (gs .null .null))) (hS S (11, 11, z))) = some (.inl none, ov (upO (hole (hole O 111) 120) 110 (some (gs (.ref 111) (.ref 120)))) (hS (pg (pg S 111 rI) 120 rI) (29, 29, z + 234))) := by
  have a5 := fun O S n z => r73_5 (xs := xs) (L := L) (.ref 110) 110 _ _ _ (al_o (S := S) (O := O) (n := n) (z := z) (rest := [.ref 110]) (own := 5) (idx := 9) (ci := 1) (by decide +kernel))
  have a16 := fun O S n z => r73_16 (xs := xs) (L := L) (.ref 110) 110 _ _ _ (al_o (S := S) (O := O) (n := n) (z := z) (rest := [.ref 110]) (own := 5) (idx := 9) (ci := 1) (by decide +kernel))
  have e3 := fun O => v3z (xs := xs) (L := L) (S := S) (O := O) (g := 111) (n := 12) (z := z + 8) (by decide) (by decide) h1 h2
  have e4 := fun O => v3z (xs := xs) (L := L) (S := pg S 111 rI) (O := O) (g := 120) (n := 21) (z := z + 8 + 109 + 8) (by decide) (by decide) h3 h4
  have hd2 : xi_df 1 = [.null, .null, .null, .null, .int 0, .int 0, .int 0, .int 0] := rfl
  have hd : ([.null, .null, .null, .null, .int 0, .int 0, .int 0, .int 0] : List Value).length = 8 := rfl
  have hg : (.inr (1, [.null, .null, .null, .null, .int 0, .int 0, .int 0, .int 0]) : xi_O) = gm .null .null .null .null := rfl
  have i1 : (100 + 11 : Nat) = 111 := rfl
  have i2 : (100 + 20 : Nat) = 120 := rfl
  have i3 : (11 + 1 : Nat) = 12 := rfl
  have i4 : (20 + 1 : Nat) = 21 := rfl
  have i5 : (12 + 8 : Nat) = 20 := rfl
  have hv : ∀ O κ hp, kVh (ov (upO O 111 (some (gm .null .null .null .null))) hp) 111 1 κ = κ := fun O κ hp => (ov_Vs upO_e κ).trans rfl
  have hv2 : ∀ O κ hp, kVh (ov (upO O 120 (some (gm .null .null .null .null))) hp) 120 1 κ = κ := fun O κ hp => (ov_Vs upO_e κ).trans rfl
  have k0 : ∀ κo, kP (gs .null .null) 5 0 (.ref 111) κo = κo (gs (.ref 111) .null) := fun κo => rfl
  have k1 : ∀ κo, kP (gs (.ref 111) .null) 5 1 (.ref 120) κo = κo (gs (.ref 111) (.ref 120)) := fun κo => rfl
  have hh : ∀ X w, hole (upO X 110 w) 111 = upO (hole X 111) 110 w := fun X w => hole_c (Or.inl (by decide))
  have hh2 : ∀ X w, hole (upO X 110 w) 120 = upO (hole X 120) 110 w := fun X w => hole_c (Or.inl (by decide))
  simp (config := { decide := false, maxSteps := 1000000 }) (disch := first | assumption | exact nlg_i _ | exact nlg_r _ | exact nlg_n | omega | decide) only [r73_0, r73_1, r73_4, r73_8, r73_9, r73_12, r73_15, r73_19, r73_20, r73_23, r73_26, st_g0_0, st_g0_1, st_g0_2, st_g0_3, st_g0_4, st_p0_4, st_g0_5, st_p0_5, st_g0_6, st_p0_6, st_g0_7, st_p0_7, st_v0, st_g1_0, st_g1_1, st_g1_2, st_g1_3, st_p1_3, st_v1, st_g7_0, st_g7_1, st_p7_1, st_g7_2, st_p7_2, st_v7, st_i2, st_is2, st_i3, st_is3, st_i4, st_is4, st_i5, st_is5, st_i6, st_is6, st_l8, st_ls8, st_y2, st_y3, st_y4, st_y8, st_o100_0, st_o100_1, st_o100_2, st_o100_3, st_o100_4, st_o100_5, st_o100_6, st_o100_7, st_q100_7, st_o100_8, st_q100_8, st_w100, st_o110_0, st_o110_1, st_w110, st_o129_0, st_o129_1, st_q129_1, st_o129_2, st_q129_2, st_w129, st_o205_0, st_o205_1, st_q205_1, st_o205_2, st_o205_3, st_q205_3, st_o205_4, st_q205_4, st_o205_5, st_q205_5, st_o205_6, st_q205_6, st_o205_7, st_q205_7, st_o205_8, st_q205_8, st_o205_9, st_q205_9, st_w205, st_o235_0, st_o235_1, st_o235_2, st_o235_3, st_o235_4, st_o235_5, st_o235_6, st_o235_7, st_q235_7, st_o235_8, st_q235_8, st_o235_9, st_o235_10, st_q235_10, st_o235_11, st_q235_11, st_o235_12, st_q235_12, st_o235_13, st_q235_13, st_o235_14, st_q235_14, st_o235_15, st_q235_15, st_o235_16, st_q235_16, st_o235_17, st_q235_17, st_o235_18, st_q235_18, st_o235_19, st_o235_20, st_o235_21, st_q235_21, st_o235_22, st_q235_22, st_o235_23, st_o235_24, st_q235_24, st_w235, st_a204, st_as204, st_a206, st_as206, st_a216, st_as216, st_a236, st_as236, st_a237, st_as237, st_a238, st_as238, st_a239, st_as239, st_a240, st_as240, st_a241, st_as241, st_a242, st_as242, st_a243, st_as243, st_a244, st_as244, st_a245, st_as245, st_a246, st_as246, st_r130, st_r203, nx_in, nx_clamp, nx_i2n, nx_l2n, nx_add, nx_sub, nx_pred, nx_mul, nx_lt, nx_le, nx_eq, nx_shl, nx_shr, nx_and1, nx_andm, nx_m1, nx_or, nx_dr, nx_rem, nx_kC, nx_ift, nx_iff, a5, a16, i1, i2, i3, i4, i5, hd2, hd, hg, hv, hv2, e3, e4, hh, hh2, ov_Ps1, k0, k1, ↓nif_lt_t, ↓nif_lt_f, ↓nif_le_t, ↓nif_le_f, ↓nif_eq_t, ↓nif_eq_f, ↓nif_ne_t, ↓nif_ne_f, Nat.one_mul, List.cons_append, List.nil_append, List.append_nil, Option.toList, if_true, if_false, Bool.false_eq_true, and_true, true_and, and_self]
end XSR
