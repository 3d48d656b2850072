section XRI
variable {xs : Nat → Int32} {L : Nat} {S : xS} {O : Nat → Option xi_O} {hp : xi_H} {a b d h : Nat} {o : xi_O} {p q u : Option xi_O} {c k : Nat} {v : Value} {κ : xi_H → Option xi_R} {κo : xi_O → Option xi_R}
theorem upO_c (hab : a ≠ b) : upO (upO O b p) a q = upO (upO O a q) b p := by
  funext id
  show (if id = a then q else if id = b then p else O id) = (if id = b then p else if id = a then q else O id)
  by_cases h1 : id = a
  · rw [if_pos h1, if_neg (by omega), if_pos h1]
  · rw [if_neg h1, if_neg h1]
theorem ov_Ps1 : kPh (ov (upO O a (some o)) hp) a c k v κ = kP o c k v (fun o => κ (ov (upO O a (some o)) hp)) := by
  rw [ov_Ps upO_e]
  simp only [upO_up]
theorem ov_Ps2 (h1 : a ≠ b) : kPh (ov (upO (upO O a (some o)) b p) hp) a c k v κ = kP o c k v (fun o => κ (ov (upO (upO O a (some o)) b p) hp)) := by
  rw [upO_c (Ne.symm h1), ov_Ps1]
  congr 1
  funext o
  rw [upO_c h1]
theorem ov_Ps3 (h1 : a ≠ b) (h2 : a ≠ d) : kPh (ov (upO (upO (upO O a (some o)) b p) d q) hp) a c k v κ = kP o c k v (fun o => κ (ov (upO (upO (upO O a (some o)) b p) d q) hp)) := by
  rw [upO_c (Ne.symm h1), ov_Ps2 h2]
  congr 1
  funext o
  rw [upO_c h1]
theorem ov_Ps4 (h1 : a ≠ b) (h2 : a ≠ d) (h3 : a ≠ h) : kPh (ov (upO (upO (upO (upO O a (some o)) b p) d q) h u) hp) a c k v κ = kP o c k v (fun o => κ (ov (upO (upO (upO (upO O a (some o)) b p) d q) h u) hp)) := by
  rw [upO_c (Ne.symm h1), ov_Ps3 h2 h3]
  congr 1
  funext o
  rw [upO_c h1]
theorem kP4_0 {x0 x1 x2 x3 : Value} : kP (.inr (4, [x0, x1, x2, x3])) 4 0 v κo = κo (.inr (4, [v, x1, x2, x3])) := rfl
theorem kP4_1 {x0 x1 x2 x3 : Value} : kP (.inr (4, [x0, x1, x2, x3])) 4 1 v κo = κo (.inr (4, [x0, v, x2, x3])) := rfl
theorem kP4_2 {x0 x1 x2 x3 : Value} : kP (.inr (4, [x0, x1, x2, x3])) 4 2 v κo = κo (.inr (4, [x0, x1, v, x3])) := rfl
def z0 : xG := fun _ _ => 0
theorem v42 {g n z : Nat} (hG : isG g = true) (hn : 100 + n = g + 2) : ev xs L 42 0 [.ref (g + 1)] [] (ov (upO O (g + 1) (some (.inr (4, [.null, .null, .null, .int 0])))) (hS (pg S g z0) (n, n, z))) = some (.inl none, ov (upO (upO (upO (upO O (g + 1) none) (g + 2) none) (g + 3) none) (g + 4) none) (hS (pg S g (ly 12 (up2 z0 1 3 5))) (n + 3, n + 3, z + 36))) := by
  have a7 := fun O n z => r42_7 (xs := xs) (L := L) (.ref (g + 1)) (g + 1) (nI 12) _ _ _ (al_i (S := pg S g z0) (O := O) (n := n) (z := z) (rest := [.ref (g + 1)]) (show 12 ≤ 10000 by decide))
  have a15 := fun O n z => r42_15 (xs := xs) (L := L) (.ref (g + 1)) (g + 1) (nI 12) _ _ _ (al_i (S := pg S g z0) (O := O) (n := n) (z := z) (rest := [.ref (g + 1)]) (show 12 ≤ 10000 by decide))
  have a23 := fun O n z => r42_23 (xs := xs) (L := L) (.ref (g + 1)) (g + 1) (nI 12) _ _ _ (al_i (S := pg S g z0) (O := O) (n := n) (z := z) (rest := [.ref (g + 1)]) (show 12 ≤ 10000 by decide))
  have i1 : 100 + (n + 1) = g + 3 := by omega
  have i2 : 100 + (n + 1 + 1) = g + 4 := by omega
  have pe : (pg S g z0).1 g = z0 := pg_e z0
  have m1 : mkH (pg S g z0) (g + 1) = .inr (4, [.ref (g + 2), .ref (g + 3), .ref (g + 4), .int 0]) := by
    rw [mkH_g hG 1 (by decide)]
    show (.inr (4, [.ref (g + 2), .ref (g + 3), .ref (g + 4), .int (nI ((pg S g z0).1 g 1 3))]) : xi_O) = _
    rw [pe]
    rfl
  have m2 : ∀ j, 2 ≤ j → j ≤ 4 → mkH (pg S g z0) (g + j) = .inl (0, 12, .inl fun _ => 0) := by
    intro j h1 h2
    rw [mkH_g hG j (by omega)]
    rcases (show j = 2 ∨ j = 3 ∨ j = 4 by omega) with z | z | z <;> subst z
    · show (.inl (0, 12, .inl (fun i => nI ((pg S g z0).1 g 2 i))) : xi_O) = _
      rw [pe]; rfl
    · show (.inl (0, 12, .inl (fun i => nI ((pg S g z0).1 g 3 i))) : xi_O) = _
      rw [pe]; rfl
    · show (.inl (0, 12, .inl (fun i => nI ((pg S g z0).1 g 4 i))) : xi_O) = _
      rw [pe]; rfl
  have e43 := v43 (xs := xs) (L := L) (S := S) (t := (n + 1 + 1 + 1, n + 1 + 1 + 1, z + 12 + 12 + 12)) (r := z0) (O := upO (upO (upO (upO O (g + 1) none) (g + 2) none) (g + 3) none) (g + 4) none) hG (by rw [upO_n (by omega), upO_n (by omega), upO_n (by omega), upO_e]) (by rw [upO_n (by omega), upO_n (by omega), upO_e]) (by rw [upO_n (by omega), upO_e]) upO_e
  have hp4 : ov (upO (upO (upO (upO O (g + 1) (some (.inr (4, [.ref (g + 2), .ref (g + 3), .ref (g + 4), .int 0])))) (g + 2) (some (.inl (0, 12, .inl fun _ => 0)))) (g + 3) (some (.inl (0, 12, .inl fun _ => 0)))) (g + 4) (some (.inl (0, 12, .inl fun _ => 0)))) (hS (pg S g z0) (n + 1 + 1 + 1, n + 1 + 1 + 1, z + 12 + 12 + 12)) = ov (upO (upO (upO (upO O (g + 1) none) (g + 2) none) (g + 3) none) (g + 4) none) (hS (pg S g z0) (n + 1 + 1 + 1, n + 1 + 1 + 1, z + 12 + 12 + 12)) := by
    rw [ov_peel (a := g + 4) (m2 4 (by decide) (by decide)), upO_c (a := g + 4) (b := g + 3) (by omega), ov_peel (a := g + 3) (m2 3 (by decide) (by decide))]
    rw [upO_c (a := g + 4) (b := g + 2) (by omega), upO_c (a := g + 3) (b := g + 2) (by omega), ov_peel (a := g + 2) (m2 2 (by decide) (by decide))]
    rw [upO_c (a := g + 4) (b := g + 1) (by omega), upO_c (a := g + 3) (b := g + 1) (by omega), upO_c (a := g + 2) (b := g + 1) (by omega), ov_peel (a := g + 1) m1]
    rw [upO_c (a := g + 1) (b := g + 2) (by omega), upO_c (a := g + 1) (b := g + 3) (by omega), upO_c (a := g + 1) (b := g + 4) (by omega), upO_c (a := g + 2) (b := g + 3) (by omega), upO_c (a := g + 2) (b := g + 4) (by omega), upO_c (a := g + 3) (b := g + 4) (by omega)]
  have hv : ∀ κ, kVh (ov (upO (upO (upO (upO O (g + 1) none) (g + 2) none) (g + 3) none) (g + 4) none) (hS (pg S g z0) (n + 1 + 1 + 1, n + 1 + 1 + 1, z + 12 + 12 + 12))) (g + 1) 4 κ = κ := fun κ => (ov_V (by rw [upO_n (by omega), upO_n (by omega), upO_n (by omega), upO_e]) κ).trans (st_v1 hG κ)
  simp (config := { decide := false, maxSteps := 1000000 }) (disch := first | assumption | exact nlg_i _ | exact nlg_r _ | exact nlg_n | omega | decide) only [r42_0, r42_1, r42_4, r42_5, r42_9, r42_12, r42_13, r42_17, r42_20, r42_21, r42_25, r42_28, r42_29, r42_30, r42_33, st_g0_0, st_g0_1, st_g0_2, st_g0_3, st_g0_4, st_p0_4, st_g0_5, st_p0_5, st_g0_6, st_p0_6, st_g0_7, st_p0_7, st_v0, st_g1_0, st_g1_1, st_g1_2, st_g1_3, st_p1_3, st_v1, st_g7_0, st_g7_1, st_p7_1, st_g7_2, st_p7_2, st_v7, st_i2, st_is2, st_i3, st_is3, st_i4, st_is4, st_i5, st_is5, st_i6, st_is6, st_l8, st_ls8, st_y2, st_y3, st_y4, st_y8, st_o100_0, st_o100_1, st_o100_2, st_o100_3, st_o100_4, st_o100_5, st_o100_6, st_o100_7, st_q100_7, st_o100_8, st_q100_8, st_w100, st_o110_0, st_o110_1, st_w110, st_o129_0, st_o129_1, st_q129_1, st_o129_2, st_q129_2, st_w129, st_o205_0, st_o205_1, st_q205_1, st_o205_2, st_o205_3, st_q205_3, st_o205_4, st_q205_4, st_o205_5, st_q205_5, st_o205_6, st_q205_6, st_o205_7, st_q205_7, st_o205_8, st_q205_8, st_o205_9, st_q205_9, st_w205, st_o235_0, st_o235_1, st_o235_2, st_o235_3, st_o235_4, st_o235_5, st_o235_6, st_o235_7, st_q235_7, st_o235_8, st_q235_8, st_o235_9, st_o235_10, st_q235_10, st_o235_11, st_q235_11, st_o235_12, st_q235_12, st_o235_13, st_q235_13, st_o235_14, st_q235_14, st_o235_15, st_q235_15, st_o235_16, st_q235_16, st_o235_17, st_q235_17, st_o235_18, st_q235_18, st_o235_19, st_o235_20, st_o235_21, st_q235_21, st_o235_22, st_q235_22, st_o235_23, st_o235_24, st_q235_24, st_w235, st_a204, st_as204, st_a206, st_as206, st_a216, st_as216, st_a236, st_as236, st_a237, st_as237, st_a238, st_as238, st_a239, st_as239, st_a240, st_as240, st_a241, st_as241, st_a242, st_as242, st_a243, st_as243, st_a244, st_as244, st_a245, st_as245, st_a246, st_as246, st_r130, st_r203, nx_in, nx_clamp, nx_i2n, nx_l2n, nx_add, nx_sub, nx_pred, nx_mul, nx_lt, nx_le, nx_eq, nx_shl, nx_shr, nx_and1, nx_andm, nx_m1, nx_or, nx_dr, nx_rem, nx_kC, nx_ift, nx_iff, a7, a15, a23, hn, i1, i2, ov_Ps2, ov_Ps3, ov_Ps4, kP4_0, kP4_1, kP4_2, hp4, hv, e43, ↓nif_lt_t, ↓nif_lt_f, ↓nif_le_t, ↓nif_le_f, ↓nif_eq_t, ↓nif_eq_f, ↓nif_ne_t, ↓nif_ne_f, Nat.one_mul, List.cons_append, List.nil_append, List.append_nil, Option.toList, if_true, if_false, Bool.false_eq_true, and_true, true_and, and_self]
end XRI
