section XT2
variable {xs : Nat → Int32} {L : Nat} {S : xS} {O O' : Nat → Option xi_O} {hp : xi_H} {a b k n z : Nat} {o : xi_O} {p : Option xi_O} {rest : List Value} {t : Nat × Nat × Nat}
theorem v83d : ev xs L 83 37 [.ref 100, .null] [] (ov (upO (Dd 103) 100 (some (tr (.ref 101) (.ref 110) (.ref 129) .null .null .null .null 0))) (hS sQ (103, 103, 1309))) = ev xs L 83 52 [.ref 100, .null] [] (ov (upO (Ds 105 0) 100 (some (tr (.ref 101) (.ref 110) (.ref 129) (.ref 203) (.ref 204) .null .null 0))) (hS sQ (105, 105, 1313))) := by
  have h39 := fun p => al_q (S := sQ) (O := upO (Dd 103) 100 p) (n := 103) (z := 1309) (k := 2) (rest := [.ref 100]) (own := 6) (idx := 9) (by decide) (by decide +kernel)
  have h47 := fun p => al_z (S := sQ) (O := upO (Ds 104 0) 100 p) (n := 104) (z := 1311) (k := 2) (rest := [.ref 100]) (by decide)
  have o39 : ∀ p t, ov (upO (upO (Dd 103) 100 p) 203 (some (.inl (4, 2, .inr (.inr (.inr (.inr fun _ => none))))))) (hS sQ t) = ov (upO (Ds 104 0) 100 p) (hS sQ t) := by
    intro p t
    rw [sar_0]
    refine congrArg (fun O => ov O _) ?_
    funext id
    simp only [upO, Ds, Dd]
    repeat' split
    all_goals first | rfl | omega
  have o47 : ∀ p t, ov (upO (upO (Ds 104 0) 100 p) 204 (some (.inl (2, 2, .inl fun _ => 0)))) (hS sQ t) = ov (upO (Ds 105 0) 100 p) (hS sQ t) := by
    intro p t
    refine ov_pc rfl rfl (fun id hi => ?_)
    simp only [upO, Ds, Dd]
    repeat' split
    all_goals first | rfl | omega
  have i39 : (100 + 103 : Nat) = 203 := rfl
  have i47 : (100 + 104 : Nat) = 204 := rfl
  simp only [o39, i39] at h39
  simp only [o47, i47] at h47
  have a39 : ∀ p, ev xs L 83 39 [.ref 100, .null] [.int (nI 2), .ref 100] (ov (upO (Dd 103) 100 p) (hS sQ (103, 103, 1309))) = ev xs L 83 42 [.ref 100, .null] [.ref 203, .ref 100] (ov (upO (Ds 104 0) 100 p) (hS sQ (104, 104, 1311))) := fun p => r83_39 (xs := xs) (L := L) _ _ _ _ _ _ _ (h39 p)
  have a47 : ∀ p, ev xs L 83 47 [.ref 100, .null] [.int (nI 2), .ref 100] (ov (upO (Ds 104 0) 100 p) (hS sQ (104, 104, 1311))) = ev xs L 83 49 [.ref 100, .null] [.ref 204, .ref 100] (ov (upO (Ds 105 0) 100 p) (hS sQ (105, 105, 1313))) := fun p => r83_47 (xs := xs) (L := L) _ _ _ _ _ _ _ (h47 p)
  have k0 : ∀ κo, kP (tr (.ref 101) (.ref 110) (.ref 129) .null .null .null .null 0) 6 3 (.ref 203) κo = κo (tr (.ref 101) (.ref 110) (.ref 129) (.ref 203) .null .null .null 0) := fun κo => rfl
  have k1 : ∀ κo, kP (tr (.ref 101) (.ref 110) (.ref 129) (.ref 203) .null .null .null 0) 6 4 (.ref 204) κo = κo (tr (.ref 101) (.ref 110) (.ref 129) (.ref 203) (.ref 204) .null .null 0) := fun κo => rfl
  simp (config := { decide := false, maxSteps := 1000000 }) (disch := first | assumption | exact nlg_i _ | exact nlg_r _ | exact nlg_n | omega | decide) only [r83_37, r83_38, r83_42, r83_45, r83_46, r83_49, st_g0_0, st_g0_1, st_g0_2, st_g0_3, st_g0_4, st_p0_4, st_g0_5, st_p0_5, st_g0_6, st_p0_6, st_g0_7, st_p0_7, st_v0, st_g1_0, st_g1_1, st_g1_2, st_g1_3, st_p1_3, st_v1, st_g7_0, st_g7_1, st_p7_1, st_g7_2, st_p7_2, st_v7, st_i2, st_is2, st_i3, st_is3, st_i4, st_is4, st_i5, st_is5, st_i6, st_is6, st_l8, st_ls8, st_y2, st_y3, st_y4, st_y8, st_o100_0, st_o100_1, st_o100_2, st_o100_3, st_o100_4, st_o100_5, st_o100_6, st_o100_7, st_q100_7, st_o100_8, st_q100_8, st_w100, st_o110_0, st_o110_1, st_w110, st_o129_0, st_o129_1, st_q129_1, st_o129_2, st_q129_2, st_w129, st_o205_0, st_o205_1, st_q205_1, st_o205_2, st_o205_3, st_q205_3, st_o205_4, st_q205_4, st_o205_5, st_q205_5, st_o205_6, st_q205_6, st_o205_7, st_q205_7, st_o205_8, st_q205_8, st_o205_9, st_q205_9, st_w205, st_o235_0, st_o235_1, st_o235_2, st_o235_3, st_o235_4, st_o235_5, st_o235_6, st_o235_7, st_q235_7, st_o235_8, st_q235_8, st_o235_9, st_o235_10, st_q235_10, st_o235_11, st_q235_11, st_o235_12, st_q235_12, st_o235_13, st_q235_13, st_o235_14, st_q235_14, st_o235_15, st_q235_15, st_o235_16, st_q235_16, st_o235_17, st_q235_17, st_o235_18, st_q235_18, st_o235_19, st_o235_20, st_o235_21, st_q235_21, st_o235_22, st_q235_22, st_o235_23, st_o235_24, st_q235_24, st_w235, st_a204, st_as204, st_a206, st_as206, st_a216, st_as216, st_a236, st_as236, st_a237, st_as237, st_a238, st_as238, st_a239, st_as239, st_a240, st_as240, st_a241, st_as241, st_a242, st_as242, st_a243, st_as243, st_a244, st_as244, st_a245, st_as245, st_a246, st_as246, st_r130, st_r203, nx_in, nx_clamp, nx_i2n, nx_l2n, nx_add, nx_sub, nx_pred, nx_mul, nx_lt, nx_le, nx_eq, nx_shl, nx_shr, nx_and1, nx_andm, nx_m1, nx_or, nx_dr, nx_rem, nx_kC, nx_ift, nx_iff, a39, a47, ov_Ps1, k0, k1, ↓nif_lt_t, ↓nif_lt_f, ↓nif_le_t, ↓nif_le_f, ↓nif_eq_t, ↓nif_eq_f, ↓nif_ne_t, ↓nif_ne_f, Nat.one_mul, List.cons_append, List.nil_append, List.append_nil, Option.toList, if_true, if_false, Bool.false_eq_true, and_true, true_and, and_self]
def sR : xS := pg sQ 207 rI
theorem v83e : ev xs L 83 52 [.ref 100, .null] [] (ov (upO (Ds 105 0) 100 (some (tr (.ref 101) (.ref 110) (.ref 129) (.ref 203) (.ref 204) .null .null 0))) (hS sQ (105, 105, 1313))) = ev xs L 83 81 [.ref 100, .null] [] (ov (upO (Ds 117 0) 100 (some (tr (.ref 101) (.ref 110) (.ref 129) (.ref 203) (.ref 204) (.ref 205) (.ref 216) (-1)))) (hS sR (117, 117, 1750))) := by
  have a53 : ∀ p, ev xs L 83 53 [.ref 100, .null] [.ref 100] (ov (upO (Ds 105 0) 100 p) (hS sQ (105, 105, 1313))) = ev xs L 83 56 [.ref 100, .null] [.ref 205, .ref 100] (ov (upO (upO (Ds 105 0) 100 p) 205 (some (gt .null .null 0))) (hS sQ (106, 106, 1323))) := fun p => r83_53 (xs := xs) (L := L) _ _ _ _ _ _ (al_o (S := sQ) (O := upO (Ds 105 0) 100 p) (n := 105) (z := 1313) (rest := [.ref 100]) (own := 6) (idx := 38) (ci := 2) (by decide +kernel))
  have e3 := fun p => v15 (xs := xs) (L := L) (S := sQ) (O := upO (Ds 105 0) 100 p) (z := 1323) rfl rfl rfl
  have ho : ∀ p t, ov (upO (hole (upO (upO (Ds 105 0) 100 p) 206 none) 207) 205 (some (gt (.ref 206) (.ref 207) (-1)))) (hS (pg sQ 207 (rB (ly 12 (up2 z0 1 3 5)))) t) = ov (upO (Ds 116 0) 100 p) (hS sR t) := by
    intro p t
    refine ov_pc rfl rfl (fun id hi => ?_)
    simp only [hole, upO, Ds, Dd]
    repeat' split
    all_goals first | rfl | omega
  have hv : ∀ O κ hp, kVh (ov (upO O 205 (some (gt .null .null 0))) hp) 205 2 κ = κ := fun O κ hp => (ov_Vs upO_e κ).trans rfl
  have hn : (1323 + 417 : Nat) = 1740 := rfl
  simp only [ho, hn] at e3
  have h66 := fun p => al_b (S := sR) (O := upO (Ds 116 0) 100 p) (n := 116) (z := 1740) (k := 10) (rest := [.ref 100]) (by decide)
  have o66 : ∀ p t, ov (upO (upO (Ds 116 0) 100 p) 216 (some (.inl (1, 10, .inl fun _ => 0)))) (hS sR t) = ov (upO (Ds 117 0) 100 p) (hS sR t) := by
    intro p t
    refine ov_pc rfl rfl (fun id hi => ?_)
    simp only [upO, Ds, Dd]
    repeat' split
    all_goals first | rfl | omega
  have i66 : (100 + 116 : Nat) = 216 := rfl
  simp only [o66, i66] at h66
  have a66 : ∀ p, ev xs L 83 66 [.ref 100, .null] [.int (nI 10), .ref 100] (ov (upO (Ds 116 0) 100 p) (hS sR (116, 116, 1740))) = ev xs L 83 68 [.ref 100, .null] [.ref 216, .ref 100] (ov (upO (Ds 117 0) 100 p) (hS sR (117, 117, 1750))) := fun p => r83_66 (xs := xs) (L := L) _ _ _ _ _ _ _ (h66 p)
  have k0 : ∀ κo, kP (tr (.ref 101) (.ref 110) (.ref 129) (.ref 203) (.ref 204) .null .null 0) 6 5 (.ref 205) κo = κo (tr (.ref 101) (.ref 110) (.ref 129) (.ref 203) (.ref 204) (.ref 205) .null 0) := fun κo => rfl
  have k1 : ∀ κo, kP (tr (.ref 101) (.ref 110) (.ref 129) (.ref 203) (.ref 204) (.ref 205) .null 0) 6 6 (.ref 216) κo = κo (tr (.ref 101) (.ref 110) (.ref 129) (.ref 203) (.ref 204) (.ref 205) (.ref 216) 0) := fun κo => rfl
  have k2 : ∀ κo, kP (tr (.ref 101) (.ref 110) (.ref 129) (.ref 203) (.ref 204) (.ref 205) (.ref 216) 0) 6 7 (.int (nI 0)) κo = κo (tr (.ref 101) (.ref 110) (.ref 129) (.ref 203) (.ref 204) (.ref 205) (.ref 216) 0) := fun κo => rfl
  have k3 : ∀ κo, kP (tr (.ref 101) (.ref 110) (.ref 129) (.ref 203) (.ref 204) (.ref 205) (.ref 216) 0) 6 8 (.int (-1)) κo = κo (tr (.ref 101) (.ref 110) (.ref 129) (.ref 203) (.ref 204) (.ref 205) (.ref 216) (-1)) := fun κo => rfl
  simp (config := { decide := false, maxSteps := 1000000 }) (disch := first | assumption | exact nlg_i _ | exact nlg_r _ | exact nlg_n | omega | decide) only [r83_52, r83_56, r83_57, r83_60, r83_63, r83_64, r83_68, r83_71, r83_72, r83_73, r83_76, r83_77, r83_78, st_g0_0, st_g0_1, st_g0_2, st_g0_3, st_g0_4, st_p0_4, st_g0_5, st_p0_5, st_g0_6, st_p0_6, st_g0_7, st_p0_7, st_v0, st_g1_0, st_g1_1, st_g1_2, st_g1_3, st_p1_3, st_v1, st_g7_0, st_g7_1, st_p7_1, st_g7_2, st_p7_2, st_v7, st_i2, st_is2, st_i3, st_is3, st_i4, st_is4, st_i5, st_is5, st_i6, st_is6, st_l8, st_ls8, st_y2, st_y3, st_y4, st_y8, st_o100_0, st_o100_1, st_o100_2, st_o100_3, st_o100_4, st_o100_5, st_o100_6, st_o100_7, st_q100_7, st_o100_8, st_q100_8, st_w100, st_o110_0, st_o110_1, st_w110, st_o129_0, st_o129_1, st_q129_1, st_o129_2, st_q129_2, st_w129, st_o205_0, st_o205_1, st_q205_1, st_o205_2, st_o205_3, st_q205_3, st_o205_4, st_q205_4, st_o205_5, st_q205_5, st_o205_6, st_q205_6, st_o205_7, st_q205_7, st_o205_8, st_q205_8, st_o205_9, st_q205_9, st_w205, st_o235_0, st_o235_1, st_o235_2, st_o235_3, st_o235_4, st_o235_5, st_o235_6, st_o235_7, st_q235_7, st_o235_8, st_q235_8, st_o235_9, st_o235_10, st_q235_10, st_o235_11, st_q235_11, st_o235_12, st_q235_12, st_o235_13, st_q235_13, st_o235_14, st_q235_14, st_o235_15, st_q235_15, st_o235_16, st_q235_16, st_o235_17, st_q235_17, st_o235_18, st_q235_18, st_o235_19, st_o235_20, st_o235_21, st_q235_21, st_o235_22, st_q235_22, st_o235_23, st_o235_24, st_q235_24, st_w235, st_a204, st_as204, st_a206, st_as206, st_a216, st_as216, st_a236, st_as236, st_a237, st_as237, st_a238, st_as238, st_a239, st_as239, st_a240, st_as240, st_a241, st_as241, st_a242, st_as242, st_a243, st_as243, st_a244, st_as244, st_a245, st_as245, st_a246, st_as246, st_r130, st_r203, nx_in, nx_clamp, nx_i2n, nx_l2n, nx_add, nx_sub, nx_pred, nx_mul, nx_lt, nx_le, nx_eq, nx_shl, nx_shr, nx_and1, nx_andm, nx_m1, nx_or, nx_dr, nx_rem, nx_kC, nx_ift, nx_iff, a53, a66, hv, e3, ov_Ps1, k0, k1, k2, k3, ↓nif_lt_t, ↓nif_lt_f, ↓nif_le_t, ↓nif_le_f, ↓nif_eq_t, ↓nif_eq_f, ↓nif_ne_t, ↓nif_ne_f, Nat.one_mul, List.cons_append, List.nil_append, List.append_nil, Option.toList, if_true, if_false, Bool.false_eq_true, and_true, true_and, and_self]
def trF : xi_O := tr (.ref 101) (.ref 110) (.ref 129) (.ref 203) (.ref 204) (.ref 205) (.ref 216) (-1)
theorem v83s {n z : Nat} {S : xS} {x : Value} {j : Nat} (hn : n = 117 + 9 * j) (hj : j < 2) (h1 : S.1 (217 + 9 * j) = z0) (h2 : S.2.1 (217 + 9 * j) = fun _ => 0) : ev xs L 83 88 [.ref 100, .int (nI j)] [] (ov (upO (Ds n j) 100 (some trF)) (hS S (n, n, z))) = ev xs L 83 101 [.ref 100, .int (nI j)] [] (ov (upO (Ds (n + 9) (j + 1)) 100 (some trF)) (hS (pg S (217 + 9 * j) rI) (n + 9, n + 9, z + 117))) := by
  have hG : isG (217 + 9 * j) = true := by
    rcases (show j = 0 ∨ j = 1 by omega) with q | q <;> subst q <;> decide
  have i1 : 100 + n = 217 + 9 * j := by omega
  have a93 := r83_93 (xs := xs) (L := L) (.ref 100) (.int (nI j)) 203 (nI j) _ _ _ (al_o (S := S) (O := upO (Ds n j) 100 (some trF)) (n := n) (z := z) (rest := [.int (nI j), .ref 203]) (own := 6) (idx := 9) (ci := 1) (by decide +kernel))
  rw [i1] at a93
  have e3 := v3z (xs := xs) (L := L) (S := S) (O := upO (Ds n j) 100 (some trF)) (g := 217 + 9 * j) (n := n + 1) (z := z + 8) hG (by omega) h1 h2
  have ho : hole (upO (Ds n j) 100 (some trF)) (217 + 9 * j) = upO (fun id => if id = 203 then some (sar j) else Dd (n + 9) id) 100 (some trF) := by
    subst hn
    funext id
    simp only [hole, upO, Ds, Dd]
    repeat' split
    all_goals first | rfl | omega
  rw [ho] at e3
  have hv : ∀ O κ hp, kVh (ov (upO O (217 + 9 * j) (some (gm .null .null .null .null))) hp) (217 + 9 * j) 1 κ = κ := fun O κ hp => (ov_Vs upO_e κ).trans rfl
  have hF : ∀ O κ hp, kFh (ov (upO O 100 (some trF)) hp) 100 6 3 κ = κ (.ref 203) := fun O κ hp => (ov_Fs upO_e κ).trans rfl
  have hd2 : xi_df 1 = [.null, .null, .null, .null, .int 0, .int 0, .int 0, .int 0] := rfl
  have hd : ([.null, .null, .null, .null, .int 0, .int 0, .int 0, .int 0] : List Value).length = 8 := rfl
  have hg : (.inr (1, [.null, .null, .null, .null, .int 0, .int 0, .int 0, .int 0]) : xi_O) = gm .null .null .null .null := rfl
  have hob : ∃ q, (ov (upO (fun id => if id = 203 then some (sar j) else Dd (n + 9) id) 100 (some trF)) (hS (pg S (217 + 9 * j) rI) (n + 1 + 8, n + 1 + 8, z + 8 + 109))).1 (217 + 9 * j) = .inr (1, q) := by
    rw [ov_n (show upO (fun id => if id = 203 then some (sar j) else Dd (n + 9) id) 100 (some trF) (217 + 9 * j) = none by
      simp only [upO, Dd]
      rw [if_neg (by omega), if_neg (by omega), if_pos (by omega)])]
    have h0 := mkH_g (S := pg S (217 + 9 * j) rI) hG 0 (by decide)
    rw [Nat.add_zero] at h0
    exact ⟨_, h0⟩
  obtain ⟨q, hq⟩ := hob
  have aa := aa_ov (f := fun i => if i < j then some (217 + 9 * i) else none) (a := 203) (rest := []) (k := 2) rfl hq hj (by decide)
  rw [sar_s, show upO (upO (fun id => if id = 203 then some (sar j) else Dd (n + 9) id) 100 (some trF)) 203 (some (sar (j + 1))) = upO (Ds (n + 9) (j + 1)) 100 (some trF) by
    funext id
    simp only [upO, Ds]
    repeat' split
    all_goals first | rfl | omega] at aa
  have a100 := r83_100 (xs := xs) (L := L) (.ref 100) (.int (nI j)) 203 (nI j) (217 + 9 * j) _ _ aa
  have t1 : ((n + 1 + 8, n + 1 + 8, z + 8 + 109) : Nat × Nat × Nat) = (n + 9, n + 9, z + 117) := by
    refine Prod.ext ?_ (Prod.ext ?_ ?_)
    · show n + 1 + 8 = n + 9; omega
    · show n + 1 + 8 = n + 9; omega
    · show z + 8 + 109 = z + 117; omega
  rw [t1] at e3 a100
  simp (config := { decide := false, maxSteps := 1000000 }) (disch := first | assumption | exact nlg_i _ | exact nlg_r _ | exact nlg_n | omega | decide) only [r83_88, r83_89, r83_92, r83_96, r83_97, st_g0_0, st_g0_1, st_g0_2, st_g0_3, st_g0_4, st_p0_4, st_g0_5, st_p0_5, st_g0_6, st_p0_6, st_g0_7, st_p0_7, st_v0, st_g1_0, st_g1_1, st_g1_2, st_g1_3, st_p1_3, st_v1, st_g7_0, st_g7_1, st_p7_1, st_g7_2, st_p7_2, st_v7, st_i2, st_is2, st_i3, st_is3, st_i4, st_is4, st_i5, st_is5, st_i6, st_is6, st_l8, st_ls8, st_y2, st_y3, st_y4, st_y8, st_o100_0, st_o100_1, st_o100_2, st_o100_3, st_o100_4, st_o100_5, st_o100_6, st_o100_7, st_q100_7, st_o100_8, st_q100_8, st_w100, st_o110_0, st_o110_1, st_w110, st_o129_0, st_o129_1, st_q129_1, st_o129_2, st_q129_2, st_w129, st_o205_0, st_o205_1, st_q205_1, st_o205_2, st_o205_3, st_q205_3, st_o205_4, st_q205_4, st_o205_5, st_q205_5, st_o205_6, st_q205_6, st_o205_7, st_q205_7, st_o205_8, st_q205_8, st_o205_9, st_q205_9, st_w205, st_o235_0, st_o235_1, st_o235_2, st_o235_3, st_o235_4, st_o235_5, st_o235_6, st_o235_7, st_q235_7, st_o235_8, st_q235_8, st_o235_9, st_o235_10, st_q235_10, st_o235_11, st_q235_11, st_o235_12, st_q235_12, st_o235_13, st_q235_13, st_o235_14, st_q235_14, st_o235_15, st_q235_15, st_o235_16, st_q235_16, st_o235_17, st_q235_17, st_o235_18, st_q235_18, st_o235_19, st_o235_20, st_o235_21, st_q235_21, st_o235_22, st_q235_22, st_o235_23, st_o235_24, st_q235_24, st_w235, st_a204, st_as204, st_a206, st_as206, st_a216, st_as216, st_a236, st_as236, st_a237, st_as237, st_a238, st_as238, st_a239, st_as239, st_a240, st_as240, st_a241, st_as241, st_a242, st_as242, st_a243, st_as243, st_a244, st_as244, st_a245, st_as245, st_a246, st_as246, st_r130, st_r203, nx_in, nx_clamp, nx_i2n, nx_l2n, nx_add, nx_sub, nx_pred, nx_mul, nx_lt, nx_le, nx_eq, nx_shl, nx_shr, nx_and1, nx_andm, nx_m1, nx_or, nx_dr, nx_rem, nx_kC, nx_ift, nx_iff, hF, a93, hd2, hd, hg, hv, e3, a100, ↓nif_lt_t, ↓nif_lt_f, ↓nif_le_t, ↓nif_le_f, ↓nif_eq_t, ↓nif_eq_f, ↓nif_ne_t, ↓nif_ne_f, Nat.one_mul, List.cons_append, List.nil_append, List.append_nil, Option.toList, if_true, if_false, Bool.false_eq_true, and_true, true_and, and_self]
end XT2
