section XUN
variable {xs : Nat → Int32} {L : Nat} {S X : xS} {t : Nat × Nat × Nat} {A B C P H : Nat → Nat} {ls gv : Int32} {m n c kp nx i : Nat} {r q r' : xG} {k k' : Nat → Nat}
theorem s123p {id ln fr : Nat} (hid : 1 ≤ id) (hrd : ∀ (S : xS) (t : Nat × Nat × Nat) (i : Int32) (κ : Int32 → Option xi_R), kIh (hS S t) id i κ = if xi_in i ln = true then κ (nI (S.2.2.1 id i.toNatClampNeg)) else none) (hi1 : id ≠ 236) (hi2 : id ≠ 239) (hi3 : id ≠ 238) (hi4 : id ≠ 244) (hi5 : id ≠ 245) (hR : ∀ x, x < 574 → S.2.2.1 id (fr + x) < 2 ^ 32) (hln : fr + 574 ≤ ln) (hln2 : ln < 2 ^ 20) : ∃ B C P H ls gv, ev xs L 123 0 [.ref 235, .ref id, .int (nI fr), .null] [] (hS S t) = some (.inl none, hS (mw S (ovl (fun x => S.2.2.1 id (fr + x)) (S.2.2.1 236) 574) B C P H ls gv) t) := by
  have e := s123 (xs := xs) (L := L) (S := S) (t := t) (A := S.2.2.1 236) (B := S.2.2.1 239) (C := S.2.2.1 238) (P := S.2.2.1 244) (H := S.2.2.1 245) (ls := S.2.2.2.1 235 21) (gv := S.2.2.2.1 235 22) (R := S.2.2.1 id) (fr := fr) hid hrd (fun A => by
    show (if id = 236 then A else if id = 239 then _ else if id = 238 then _ else if id = 244 then _ else if id = 245 then _ else S.2.2.1 id) = _
    rw [if_neg hi1, if_neg hi2, if_neg hi3, if_neg hi4, if_neg hi5]) hR hln hln2
  rw [mw_self] at e
  exact ⟨_, _, _, _, _, _, e⟩
/-- the class's state behind an undone change -/
def udS (S : xS) (nx kp : Nat) : xS := pk (sI (sI S 129 2 (nI ((nx + 7) % 8))) 129 1 (nI (kp - 1))) 101 (S.1 (131 + 9 * ((nx + 7) % 8))) (S.2.1 (131 + 9 * ((nx + 7) % 8)))
theorem s2 (h1 : S.2.2.2.1 129 1 = nI kp) (h2 : S.2.2.2.1 129 2 = nI nx) (hkp : kp ≤ 8) (hk1 : 1 ≤ kp) (hnx : nx < 8) (hm : m < 2 ^ 20) (hj : jk (S.1 101)) (hk : kok (S.2.1 101)) (hg : gd m (S.1 (131 + 9 * ((nx + 7) % 8)))) (hj2 : kok (S.2.1 (131 + 9 * ((nx + 7) % 8)))) : ev xs L 2 0 [.ref 129, .ref 101] [] (hS S t) = some (.inl none, hS (udS S nx kp) t) := by
  unfold udS
  have hy8 : (nx + 7) % 8 < 8 := by omega
  have hy : (0 < nx → nx - 1 = (nx + 7) % 8) ∧ (¬ 0 < nx → (nx + 7) % 8 = 7) := by omega
  generalize (nx + 7) % 8 = y at hg hj2 hy8 hy ⊢
  have hG := isG_c hy8
  have hG1 : isG 101 = true := by decide
  have e1 := s12 (xs := xs) (L := L) (S := sI (sI S 129 2 (nI y)) 129 1 (nI (kp - 1))) (t := t) (g := 101) (q := 131 + 9 * y) hG1 hG (by omega) hj.1 hg.2.2.1 (gd_rng hg hm) hk.1 hj2.1
  rw [pg_sKG] at e1
  have f1 : (sI S 129 2 (nI y)).2.2.2.1 129 1 = nI kp := h1
  have f2 : (sI (sI S 129 2 (nI y)) 129 1 (nI (kp - 1))).2.2.2.1 129 2 = nI y := rfl
  by_cases a : 0 < nx
  · have q1 := hy.1 a
    simp (config := { decide := false, maxSteps := 1000000 }) (disch := first | assumption | exact nlg_i _ | exact nlg_r _ | exact nlg_n | omega | decide) only [r2_0, r2_1, r2_2, r2_5, r2_8, r2_9, r2_12, r2_13, r2_14, r2_17, r2_19, r2_22, r2_23, r2_24, r2_27, r2_28, r2_29, r2_32, r2_33, r2_34, r2_37, r2_38, r2_41, r2_42, r2_45, st_g0_0, st_g0_1, st_g0_2, st_g0_3, st_g0_4, st_p0_4, st_g0_5, st_p0_5, st_g0_6, st_p0_6, st_g0_7, st_p0_7, st_v0, st_g1_0, st_g1_1, st_g1_2, st_g1_3, st_p1_3, st_v1, st_g7_0, st_g7_1, st_p7_1, st_g7_2, st_p7_2, st_v7, st_i2, st_is2, st_i3, st_is3, st_i4, st_is4, st_i5, st_is5, st_i6, st_is6, st_l8, st_ls8, st_y2, st_y3, st_y4, st_y8, st_o100_0, st_o100_1, st_o100_2, st_o100_3, st_o100_4, st_o100_5, st_o100_6, st_o100_7, st_q100_7, st_o100_8, st_q100_8, st_w100, st_o110_0, st_o110_1, st_w110, st_o129_0, st_o129_1, st_q129_1, st_o129_2, st_q129_2, st_w129, st_o205_0, st_o205_1, st_q205_1, st_o205_2, st_o205_3, st_q205_3, st_o205_4, st_q205_4, st_o205_5, st_q205_5, st_o205_6, st_q205_6, st_o205_7, st_q205_7, st_o205_8, st_q205_8, st_o205_9, st_q205_9, st_w205, st_o235_0, st_o235_1, st_o235_2, st_o235_3, st_o235_4, st_o235_5, st_o235_6, st_o235_7, st_q235_7, st_o235_8, st_q235_8, st_o235_9, st_o235_10, st_q235_10, st_o235_11, st_q235_11, st_o235_12, st_q235_12, st_o235_13, st_q235_13, st_o235_14, st_q235_14, st_o235_15, st_q235_15, st_o235_16, st_q235_16, st_o235_17, st_q235_17, st_o235_18, st_q235_18, st_o235_19, st_o235_20, st_o235_21, st_q235_21, st_o235_22, st_q235_22, st_o235_23, st_o235_24, st_q235_24, st_w235, st_a204, st_as204, st_a206, st_as206, st_a216, st_as216, st_a236, st_as236, st_a237, st_as237, st_a238, st_as238, st_a239, st_as239, st_a240, st_as240, st_a241, st_as241, st_a242, st_as242, st_a243, st_as243, st_a244, st_as244, st_a245, st_as245, st_a246, st_as246, st_r130, st_r203, nx_in, nx_clamp, nx_i2n, nx_l2n, nx_add, nx_sub, nx_pred, nx_mul, nx_lt, nx_le, nx_eq, nx_shl, nx_shr, nx_and1, nx_andm, nx_m1, nx_or, nx_dr, nx_rem, nx_kC, nx_ift, nx_iff, h2, q1, f1, f2, e1, ↓nif_lt_t, ↓nif_lt_f, ↓nif_le_t, ↓nif_le_f, ↓nif_eq_t, ↓nif_eq_f, ↓nif_ne_t, ↓nif_ne_f, Nat.one_mul, List.cons_append, List.nil_append, List.append_nil, Option.toList, if_true, if_false, Bool.false_eq_true, and_true, true_and, and_self]
    rfl
  · have q1 := hy.2 a
    subst q1
    simp (config := { decide := false, maxSteps := 1000000 }) (disch := first | assumption | exact nlg_i _ | exact nlg_r _ | exact nlg_n | omega | decide) only [r2_0, r2_1, r2_2, r2_5, r2_8, r2_9, r2_12, r2_13, r2_14, r2_17, r2_19, r2_22, r2_23, r2_24, r2_27, r2_28, r2_29, r2_32, r2_33, r2_34, r2_37, r2_38, r2_41, r2_42, r2_45, st_g0_0, st_g0_1, st_g0_2, st_g0_3, st_g0_4, st_p0_4, st_g0_5, st_p0_5, st_g0_6, st_p0_6, st_g0_7, st_p0_7, st_v0, st_g1_0, st_g1_1, st_g1_2, st_g1_3, st_p1_3, st_v1, st_g7_0, st_g7_1, st_p7_1, st_g7_2, st_p7_2, st_v7, st_i2, st_is2, st_i3, st_is3, st_i4, st_is4, st_i5, st_is5, st_i6, st_is6, st_l8, st_ls8, st_y2, st_y3, st_y4, st_y8, st_o100_0, st_o100_1, st_o100_2, st_o100_3, st_o100_4, st_o100_5, st_o100_6, st_o100_7, st_q100_7, st_o100_8, st_q100_8, st_w100, st_o110_0, st_o110_1, st_w110, st_o129_0, st_o129_1, st_q129_1, st_o129_2, st_q129_2, st_w129, st_o205_0, st_o205_1, st_q205_1, st_o205_2, st_o205_3, st_q205_3, st_o205_4, st_q205_4, st_o205_5, st_q205_5, st_o205_6, st_q205_6, st_o205_7, st_q205_7, st_o205_8, st_q205_8, st_o205_9, st_q205_9, st_w205, st_o235_0, st_o235_1, st_o235_2, st_o235_3, st_o235_4, st_o235_5, st_o235_6, st_o235_7, st_q235_7, st_o235_8, st_q235_8, st_o235_9, st_o235_10, st_q235_10, st_o235_11, st_q235_11, st_o235_12, st_q235_12, st_o235_13, st_q235_13, st_o235_14, st_q235_14, st_o235_15, st_q235_15, st_o235_16, st_q235_16, st_o235_17, st_q235_17, st_o235_18, st_q235_18, st_o235_19, st_o235_20, st_o235_21, st_q235_21, st_o235_22, st_q235_22, st_o235_23, st_o235_24, st_q235_24, st_w235, st_a204, st_as204, st_a206, st_as206, st_a216, st_as216, st_a236, st_as236, st_a237, st_as237, st_a238, st_as238, st_a239, st_as239, st_a240, st_as240, st_a241, st_as241, st_a242, st_as242, st_a243, st_as243, st_a244, st_as244, st_a245, st_as245, st_a246, st_as246, st_r130, st_r203, nx_in, nx_clamp, nx_i2n, nx_l2n, nx_add, nx_sub, nx_pred, nx_mul, nx_lt, nx_le, nx_eq, nx_shl, nx_shr, nx_and1, nx_andm, nx_m1, nx_or, nx_dr, nx_rem, nx_kC, nx_ift, nx_iff, h2, f1, f2, e1, ↓nif_lt_t, ↓nif_lt_f, ↓nif_le_t, ↓nif_le_f, ↓nif_eq_t, ↓nif_eq_f, ↓nif_ne_t, ↓nif_ne_f, Nat.one_mul, List.cons_append, List.nil_append, List.append_nil, Option.toList, if_true, if_false, Bool.false_eq_true, and_true, true_and, and_self]
    rfl
theorem cF_1 : (cF S nx kp r' k').1 101 = r' := pk_e r' k'
theorem op25 (hI : Inv m S) (hm : m ≤ 512) : opOK m S t (fun hp => ev xs L 228 0 [.ref 100, .ref 247, .null] [] (hp)) (fun hp => ev xs L 127 0 [.ref 235] [] (hp)) := by
  have hI0 := hI
  obtain ⟨hm5, ⟨hgd, hkk, hgr⟩, hB, hC, hSl, hTx, hEp, hWr⟩ := hI
  have hgo := hgd.1
  have hn := hgo.1
  have hmr := hgr.1
  have hG : isG 101 = true := by decide
  have hrk := gok_rok (S := S) hG hgo rfl
  have ha0 : S.2.2.1 236 0 = S.1 101 1 3 := hmr.1.1
  have hC0 := hC
  obtain ⟨hCj, kp, nx, hkp, hnx, k1, k2, k3, hkg⟩ := hC
  by_cases h0 : kp = 0
  · subst h0
    refine op_thr (k := 1) (b := nI 0) hm hI0 (by decide) ?_ (fun t => ?_)
    · simp (config := { decide := false, maxSteps := 1000000 }) (disch := first | assumption | exact nlg_i _ | exact nlg_r _ | exact nlg_n | omega | decide) only [r228_0, r228_1, r228_2, r228_3, r228_6, r228_7, r228_8, r228_12, r228_13, r228_14, r228_15, c228_11, r116_0, r116_1, r116_4, r116_7, r116_10, r116_21, r116_22, r116_25, r116_26, r116_29, r116_32, r116_33, r116_36, r116_39, nx_kD, nx_kDr, st_l247, st_ls247, hpT_S, st_g0_0, st_g0_1, st_g0_2, st_g0_3, st_g0_4, st_p0_4, st_g0_5, st_p0_5, st_g0_6, st_p0_6, st_g0_7, st_p0_7, st_v0, st_g1_0, st_g1_1, st_g1_2, st_g1_3, st_p1_3, st_v1, st_g7_0, st_g7_1, st_p7_1, st_g7_2, st_p7_2, st_v7, st_i2, st_is2, st_i3, st_is3, st_i4, st_is4, st_i5, st_is5, st_i6, st_is6, st_l8, st_ls8, st_y2, st_y3, st_y4, st_y8, st_o100_0, st_o100_1, st_o100_2, st_o100_3, st_o100_4, st_o100_5, st_o100_6, st_o100_7, st_q100_7, st_o100_8, st_q100_8, st_w100, st_o110_0, st_o110_1, st_w110, st_o129_0, st_o129_1, st_q129_1, st_o129_2, st_q129_2, st_w129, st_o205_0, st_o205_1, st_q205_1, st_o205_2, st_o205_3, st_q205_3, st_o205_4, st_q205_4, st_o205_5, st_q205_5, st_o205_6, st_q205_6, st_o205_7, st_q205_7, st_o205_8, st_q205_8, st_o205_9, st_q205_9, st_w205, st_o235_0, st_o235_1, st_o235_2, st_o235_3, st_o235_4, st_o235_5, st_o235_6, st_o235_7, st_q235_7, st_o235_8, st_q235_8, st_o235_9, st_o235_10, st_q235_10, st_o235_11, st_q235_11, st_o235_12, st_q235_12, st_o235_13, st_q235_13, st_o235_14, st_q235_14, st_o235_15, st_q235_15, st_o235_16, st_q235_16, st_o235_17, st_q235_17, st_o235_18, st_q235_18, st_o235_19, st_o235_20, st_o235_21, st_q235_21, st_o235_22, st_q235_22, st_o235_23, st_o235_24, st_q235_24, st_w235, st_a204, st_as204, st_a206, st_as206, st_a216, st_as216, st_a236, st_as236, st_a237, st_as237, st_a238, st_as238, st_a239, st_as239, st_a240, st_as240, st_a241, st_as241, st_a242, st_as242, st_a243, st_as243, st_a244, st_as244, st_a245, st_as245, st_a246, st_as246, st_r130, st_r203, nx_in, nx_clamp, nx_i2n, nx_l2n, nx_add, nx_sub, nx_pred, nx_mul, nx_lt, nx_le, nx_eq, nx_shl, nx_shr, nx_and1, nx_andm, nx_m1, nx_or, nx_dr, nx_rem, nx_kC, nx_ift, nx_iff, k1, ↓nif_lt_t, ↓nif_lt_f, ↓nif_le_t, ↓nif_le_f, ↓nif_eq_t, ↓nif_eq_f, ↓nif_ne_t, ↓nif_ne_f, Nat.one_mul, List.cons_append, List.nil_append, List.append_nil, Option.toList, if_true, if_false, Bool.false_eq_true, and_true, true_and, and_self]
    · simp (config := { decide := false, maxSteps := 1000000 }) (disch := first | assumption | exact nlg_i _ | exact nlg_r _ | exact nlg_n | omega | decide) only [r127_0, r127_1, r127_2, r127_5, r127_8, r127_9, r127_12, r127_13, r127_16, r127_17, r127_20, r127_23, r127_24, r127_26, r127_27, r127_30, r127_31, r127_32, r127_35, r127_36, r127_37, r127_40, r127_43, r127_44, r127_47, r127_48, r127_51, r127_52, r127_55, st_g0_0, st_g0_1, st_g0_2, st_g0_3, st_g0_4, st_p0_4, st_g0_5, st_p0_5, st_g0_6, st_p0_6, st_g0_7, st_p0_7, st_v0, st_g1_0, st_g1_1, st_g1_2, st_g1_3, st_p1_3, st_v1, st_g7_0, st_g7_1, st_p7_1, st_g7_2, st_p7_2, st_v7, st_i2, st_is2, st_i3, st_is3, st_i4, st_is4, st_i5, st_is5, st_i6, st_is6, st_l8, st_ls8, st_y2, st_y3, st_y4, st_y8, st_o100_0, st_o100_1, st_o100_2, st_o100_3, st_o100_4, st_o100_5, st_o100_6, st_o100_7, st_q100_7, st_o100_8, st_q100_8, st_w100, st_o110_0, st_o110_1, st_w110, st_o129_0, st_o129_1, st_q129_1, st_o129_2, st_q129_2, st_w129, st_o205_0, st_o205_1, st_q205_1, st_o205_2, st_o205_3, st_q205_3, st_o205_4, st_q205_4, st_o205_5, st_q205_5, st_o205_6, st_q205_6, st_o205_7, st_q205_7, st_o205_8, st_q205_8, st_o205_9, st_q205_9, st_w205, st_o235_0, st_o235_1, st_o235_2, st_o235_3, st_o235_4, st_o235_5, st_o235_6, st_o235_7, st_q235_7, st_o235_8, st_q235_8, st_o235_9, st_o235_10, st_q235_10, st_o235_11, st_q235_11, st_o235_12, st_q235_12, st_o235_13, st_q235_13, st_o235_14, st_q235_14, st_o235_15, st_q235_15, st_o235_16, st_q235_16, st_o235_17, st_q235_17, st_o235_18, st_q235_18, st_o235_19, st_o235_20, st_o235_21, st_q235_21, st_o235_22, st_q235_22, st_o235_23, st_o235_24, st_q235_24, st_w235, st_a204, st_as204, st_a206, st_as206, st_a216, st_as216, st_a236, st_as236, st_a237, st_as237, st_a238, st_as238, st_a239, st_as239, st_a240, st_as240, st_a241, st_as241, st_a242, st_as242, st_a243, st_as243, st_a244, st_as244, st_a245, st_as245, st_a246, st_as246, st_r130, st_r203, nx_in, nx_clamp, nx_i2n, nx_l2n, nx_add, nx_sub, nx_pred, nx_mul, nx_lt, nx_le, nx_eq, nx_shl, nx_shr, nx_and1, nx_andm, nx_m1, nx_or, nx_dr, nx_rem, nx_kC, nx_ift, nx_iff, k3, sI_8, ↓nif_lt_t, ↓nif_lt_f, ↓nif_le_t, ↓nif_le_f, ↓nif_eq_t, ↓nif_eq_f, ↓nif_ne_t, ↓nif_ne_f, Nat.one_mul, List.cons_append, List.nil_append, List.append_nil, Option.toList, if_true, if_false, Bool.false_eq_true, and_true, true_and, and_self]
  · have hlast := hkg (kp - 1) (by omega)
    have hcg : cgn nx kp (kp - 1) = 131 + 9 * ((nx + 7) % 8) := by
      unfold cgn
      congr 2
      omega
    rw [hcg] at hlast
    have e1 := s2 (xs := xs) (L := L) (S := S) (t := t) (m := m) k1 k2 hkp (by omega) hnx (by omega) (gd_jk hgd) hkk hlast.1 hlast.2.1
    have u1 : (udS S nx kp).1 101 = S.1 (131 + 9 * ((nx + 7) % 8)) := pk_e (S.1 (131 + 9 * ((nx + 7) % 8))) (S.2.1 (131 + 9 * ((nx + 7) % 8)))
    have uk : (udS S nx kp).2.1 101 = S.2.1 (131 + 9 * ((nx + 7) % 8)) := pk_k (S.1 (131 + 9 * ((nx + 7) % 8))) (S.2.1 (131 + 9 * ((nx + 7) % 8)))
    have un : ∀ g, g ≠ 101 → (udS S nx kp).1 g = S.1 g ∧ (udS S nx kp).2.1 g = S.2.1 g := fun g hg => ⟨pk_n (S.1 (131 + 9 * ((nx + 7) % 8))) (S.2.1 (131 + 9 * ((nx + 7) % 8))) hg, pk_kn (S.1 (131 + 9 * ((nx + 7) % 8))) (S.2.1 (131 + 9 * ((nx + 7) % 8))) hg⟩
    have u3 : (udS S nx kp).2.2.1 = S.2.2.1 := rfl
    have uf1 : (udS S nx kp).2.2.2.1 129 1 = nI (kp - 1) := rfl
    have uf2 : (udS S nx kp).2.2.2.1 129 2 = nI ((nx + 7) % 8) := rfl
    have uf : ∀ i j, i ≠ 129 → (udS S nx kp).2.2.2.1 i j = S.2.2.2.1 i j := by
      intro i j hi
      show (if i = 129 ∧ j = 1 then _ else if i = 129 ∧ j = 2 then _ else S.2.2.2.1 i j) = _
      rw [if_neg (fun z => hi z.1), if_neg (fun z => hi z.1)]
    generalize udS S nx kp = U at e1 u1 uk un u3 uf1 uf2 uf
    have f0 : ∀ v, (sO U 0 v).2.2.2.1 235 7 = nI kp := fun v => (uf 235 7 (by decide)).trans k3
    have f1 : ∀ v, (sI (sO U 0 v) 235 8 (nI 0)).2.2.2.1 235 7 = nI kp := f0
    obtain ⟨B, C, P, H, ls, gv, e2⟩ := s123p (xs := xs) (L := L) (S := sI (sI (sO U 0 (nI (kp - 1)).toInt64) 235 8 (nI 0)) 235 7 (nI (kp - 1))) (t := t) (id := 240) (ln := 4592) (fr := 574 * (kp - 1)) (by decide) (fun _ _ _ _ => st_a240 _ _) (by decide) (by decide) (by decide) (by decide) (by decide) (by
      show ∀ x, x < 574 → U.2.2.1 240 (574 * (kp - 1) + x) < 2 ^ 32
      rw [u3]
      exact fun x hx => hlast.2.2.2.2 x hx) (by omega) (by decide)
    have f2 : ∀ A B C P H ls gv, (mw (sI (sI (sO U 0 (nI (kp - 1)).toInt64) 235 8 (nI 0)) 235 7 (nI (kp - 1))) A B C P H ls gv).2.2.2.1 235 7 = nI (kp - 1) := fun _ _ _ _ _ _ _ => rfl
    have f3 : (sI (sI (sO U 0 (nI (kp - 1)).toInt64) 235 8 (nI 0)) 235 7 (nI (kp - 1))).2.2.2.1 235 7 = nI (kp - 1) := rfl
    refine op_chg (S1 := sO U 0 (nI (kp - 1)).toInt64) (v := nI (kp - 1)) (S2 := mw (sI (sI (sO U 0 (nI (kp - 1)).toInt64) 235 8 (nI 0)) 235 7 (nI (kp - 1))) (ovl (fun x => (sI (sI (sO U 0 (nI (kp - 1)).toInt64) 235 8 (nI 0)) 235 7 (nI (kp - 1))).2.2.1 240 (574 * (kp - 1) + x)) ((sI (sI (sO U 0 (nI (kp - 1)).toInt64) 235 8 (nI 0)) 235 7 (nI (kp - 1))).2.2.1 236) 574) B C P H ls gv) ?_ ?_ rfl rfl ?_
    · simp (config := { decide := false, maxSteps := 1000000 }) (disch := first | assumption | exact nlg_i _ | exact nlg_r _ | exact nlg_n | omega | decide) only [r228_0, r228_1, r228_2, r228_3, r228_6, r228_7, r228_8, r228_12, r228_13, r228_14, r228_15, c228_11, r116_0, r116_1, r116_4, r116_7, r116_10, r116_21, r116_22, r116_25, r116_26, r116_29, r116_32, r116_33, r116_36, r116_39, nx_kD, nx_kDr, st_l247, st_ls247, hpT_S, st_g0_0, st_g0_1, st_g0_2, st_g0_3, st_g0_4, st_p0_4, st_g0_5, st_p0_5, st_g0_6, st_p0_6, st_g0_7, st_p0_7, st_v0, st_g1_0, st_g1_1, st_g1_2, st_g1_3, st_p1_3, st_v1, st_g7_0, st_g7_1, st_p7_1, st_g7_2, st_p7_2, st_v7, st_i2, st_is2, st_i3, st_is3, st_i4, st_is4, st_i5, st_is5, st_i6, st_is6, st_l8, st_ls8, st_y2, st_y3, st_y4, st_y8, st_o100_0, st_o100_1, st_o100_2, st_o100_3, st_o100_4, st_o100_5, st_o100_6, st_o100_7, st_q100_7, st_o100_8, st_q100_8, st_w100, st_o110_0, st_o110_1, st_w110, st_o129_0, st_o129_1, st_q129_1, st_o129_2, st_q129_2, st_w129, st_o205_0, st_o205_1, st_q205_1, st_o205_2, st_o205_3, st_q205_3, st_o205_4, st_q205_4, st_o205_5, st_q205_5, st_o205_6, st_q205_6, st_o205_7, st_q205_7, st_o205_8, st_q205_8, st_o205_9, st_q205_9, st_w205, st_o235_0, st_o235_1, st_o235_2, st_o235_3, st_o235_4, st_o235_5, st_o235_6, st_o235_7, st_q235_7, st_o235_8, st_q235_8, st_o235_9, st_o235_10, st_q235_10, st_o235_11, st_q235_11, st_o235_12, st_q235_12, st_o235_13, st_q235_13, st_o235_14, st_q235_14, st_o235_15, st_q235_15, st_o235_16, st_q235_16, st_o235_17, st_q235_17, st_o235_18, st_q235_18, st_o235_19, st_o235_20, st_o235_21, st_q235_21, st_o235_22, st_q235_22, st_o235_23, st_o235_24, st_q235_24, st_w235, st_a204, st_as204, st_a206, st_as206, st_a216, st_as216, st_a236, st_as236, st_a237, st_as237, st_a238, st_as238, st_a239, st_as239, st_a240, st_as240, st_a241, st_as241, st_a242, st_as242, st_a243, st_as243, st_a244, st_as244, st_a245, st_as245, st_a246, st_as246, st_r130, st_r203, nx_in, nx_clamp, nx_i2n, nx_l2n, nx_add, nx_sub, nx_pred, nx_mul, nx_lt, nx_le, nx_eq, nx_shl, nx_shr, nx_and1, nx_andm, nx_m1, nx_or, nx_dr, nx_rem, nx_kC, nx_ift, nx_iff, k1, e1, uf1, ↓nif_lt_t, ↓nif_lt_f, ↓nif_le_t, ↓nif_le_f, ↓nif_eq_t, ↓nif_eq_f, ↓nif_ne_t, ↓nif_ne_f, Nat.one_mul, List.cons_append, List.nil_append, List.append_nil, Option.toList, if_true, if_false, Bool.false_eq_true, and_true, true_and, and_self]
    · simp (config := { decide := false, maxSteps := 1000000 }) (disch := first | assumption | exact nlg_i _ | exact nlg_r _ | exact nlg_n | omega | decide) only [r127_0, r127_1, r127_2, r127_5, r127_8, r127_9, r127_12, r127_13, r127_16, r127_17, r127_20, r127_23, r127_24, r127_25, r127_26, r127_27, r127_30, r127_31, r127_32, r127_35, r127_36, r127_37, r127_40, r127_43, r127_44, r127_47, r127_48, r127_51, r127_52, r127_55, st_g0_0, st_g0_1, st_g0_2, st_g0_3, st_g0_4, st_p0_4, st_g0_5, st_p0_5, st_g0_6, st_p0_6, st_g0_7, st_p0_7, st_v0, st_g1_0, st_g1_1, st_g1_2, st_g1_3, st_p1_3, st_v1, st_g7_0, st_g7_1, st_p7_1, st_g7_2, st_p7_2, st_v7, st_i2, st_is2, st_i3, st_is3, st_i4, st_is4, st_i5, st_is5, st_i6, st_is6, st_l8, st_ls8, st_y2, st_y3, st_y4, st_y8, st_o100_0, st_o100_1, st_o100_2, st_o100_3, st_o100_4, st_o100_5, st_o100_6, st_o100_7, st_q100_7, st_o100_8, st_q100_8, st_w100, st_o110_0, st_o110_1, st_w110, st_o129_0, st_o129_1, st_q129_1, st_o129_2, st_q129_2, st_w129, st_o205_0, st_o205_1, st_q205_1, st_o205_2, st_o205_3, st_q205_3, st_o205_4, st_q205_4, st_o205_5, st_q205_5, st_o205_6, st_q205_6, st_o205_7, st_q205_7, st_o205_8, st_q205_8, st_o205_9, st_q205_9, st_w205, st_o235_0, st_o235_1, st_o235_2, st_o235_3, st_o235_4, st_o235_5, st_o235_6, st_o235_7, st_q235_7, st_o235_8, st_q235_8, st_o235_9, st_o235_10, st_q235_10, st_o235_11, st_q235_11, st_o235_12, st_q235_12, st_o235_13, st_q235_13, st_o235_14, st_q235_14, st_o235_15, st_q235_15, st_o235_16, st_q235_16, st_o235_17, st_q235_17, st_o235_18, st_q235_18, st_o235_19, st_o235_20, st_o235_21, st_q235_21, st_o235_22, st_q235_22, st_o235_23, st_o235_24, st_q235_24, st_w235, st_a204, st_as204, st_a206, st_as206, st_a216, st_as216, st_a236, st_as236, st_a237, st_as237, st_a238, st_as238, st_a239, st_as239, st_a240, st_as240, st_a241, st_as241, st_a242, st_as242, st_a243, st_as243, st_a244, st_as244, st_a245, st_as245, st_a246, st_as246, st_r130, st_r203, nx_in, nx_clamp, nx_i2n, nx_l2n, nx_add, nx_sub, nx_pred, nx_mul, nx_lt, nx_le, nx_eq, nx_shl, nx_shr, nx_and1, nx_andm, nx_m1, nx_or, nx_dr, nx_rem, nx_kC, nx_ift, nx_iff, f0, sI_8, f1, f3, e2, f2, ↓nif_lt_t, ↓nif_lt_f, ↓nif_le_t, ↓nif_le_f, ↓nif_eq_t, ↓nif_eq_f, ↓nif_ne_t, ↓nif_ne_f, Nat.one_mul, List.cons_append, List.nil_append, List.append_nil, Option.toList, if_true, if_false, Bool.false_eq_true, and_true, true_and, and_self]
    · refine Inv_mono hm ⟨hm5, ?_, ?_, ?_, ?_, ?_, ?_, ?_⟩
      · show gd m (U.1 101) ∧ kok (U.2.1 101) ∧ grel (ovl (fun x => U.2.2.1 240 (574 * (kp - 1) + x)) (U.2.2.1 236) 574) (U.1 101) (U.2.1 101)
        rw [u1, uk, u3]
        exact ⟨hlast.1, hlast.2.1, grel_cg hlast.1.1.1.2 hlast.1.1.2.2.2.2.2.1.1 (fun x hx => ovl_lt hx) hlast.2.2⟩
      · show jk (U.1 111) ∧ kok (U.2.1 111) ∧ jk (U.1 120) ∧ kok (U.2.1 120) ∧ jk (U.1 207)
        rw [(un 111 (by decide)).1, (un 111 (by decide)).2, (un 120 (by decide)).1, (un 120 (by decide)).2, (un 207 (by decide)).1]
        exact hB
      · refine ⟨fun c hc => ?_, kp - 1, (nx + 7) % 8, by omega, by omega, uf1, uf2, rfl, fun j hj => ?_⟩
        · show jk (U.1 (131 + 9 * c)) ∧ kok (U.2.1 (131 + 9 * c))
          rw [(un (131 + 9 * c) (by omega)).1, (un (131 + 9 * c) (by omega)).2]
          exact hCj c hc
        · have h9 := hkg j (by omega)
          have hc2 : cgn ((nx + 7) % 8) (kp - 1) j = cgn nx kp j := by
            unfold cgn
            congr 2
            omega
          have hge := cgn_ge (nx := nx) (kp := kp) (j := j)
          rw [hc2]
          show gd m (U.1 (cgn nx kp j)) ∧ kok (U.2.1 (cgn nx kp j)) ∧ grel (fun x => U.2.2.1 240 (574 * j + x)) (U.1 (cgn nx kp j)) (U.2.1 (cgn nx kp j))
          rw [(un (cgn nx kp j) (by omega)).1, (un (cgn nx kp j) (by omega)).2, u3]
          exact h9
      · intro i hi
        show jk (U.1 (217 + 9 * i)) ∧ kok (U.2.1 (217 + 9 * i)) ∧ U.2.2.1 204 i = U.2.2.1 242 i ∧ U.2.2.1 242 i ≤ 1 ∧ (U.2.2.1 242 i = 1 → gd m (U.1 (217 + 9 * i)) ∧ kok (U.2.1 (217 + 9 * i)) ∧ grel (fun x => U.2.2.1 241 (574 * i + x)) (U.1 (217 + 9 * i)) (U.2.1 (217 + 9 * i)))
        rw [(un (217 + 9 * i) (by omega)).1, (un (217 + 9 * i) (by omega)).2, u3]
        exact hSl i hi
      · obtain ⟨fl, q1, q2, q3, q4⟩ := hTx
        refine ⟨fl, q1, (uf 205 1 (by decide)).trans q2, (uf 235 10 (by decide)).trans q3, ?_⟩
        show ∀ i, i < fl → U.2.2.1 206 i = U.2.2.1 243 i ∧ U.2.2.1 243 i < 256
        rw [u3]
        exact q4
      · show U.2.2.2.1 100 8 = U.2.2.2.1 235 18
        rw [uf 100 8 (by decide), uf 235 18 (by decide)]
        exact hEp
      · obtain ⟨wl, q1, q2, q3, q4⟩ := hWr
        refine ⟨wl, q1, (uf 100 7 (by decide)).trans q2, (uf 235 24 (by decide)).trans q3, ?_⟩
        show ∀ i, i < wl → U.2.2.1 216 i = U.2.2.1 246 i ∧ U.2.2.1 246 i < 128
        rw [u3]
        exact q4
end XUN
