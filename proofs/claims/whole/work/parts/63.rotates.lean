section XMT
variable {xs : Nat → Int32} {L : Nat} {S : xS} {t : Nat × Nat × Nat} {A B C P H : Nat → Nat} {ls gv : Int32} {n c : Nat} {cap : Nat → Nat} {r : xG}
def acp (A f : Nat → Nat) : Nat → Nat := fun x => if 9 ≤ x ∧ x < 21 then f (x - 9) else A x
theorem acp_o {f : Nat → Nat} {i : Nat} (h : i < 9 ∨ 21 ≤ i) : acp A f i = A i := if_neg (by omega)
theorem acp_i {f : Nat → Nat} (h : c < 12) : acp A f (9 + c) = f c := by
  unfold acp
  rw [if_pos ⟨by omega, by omega⟩, Nat.add_sub_cancel_left]
theorem acp_self : acp A (fun c => A (9 + c)) = A := by
  funext x
  unfold acp
  split
  · next h =>
    show A (9 + (x - 9)) = A x
    congr 1
    omega
  · rfl
theorem acp_s {f : Nat → Nat} {v : Nat} (h : c < 12) : upN (acp A f) (9 + c) v = acp A (upN f c v) := by
  funext x
  unfold upN acp
  by_cases h1 : x = 9 + c
  · rw [if_pos h1, if_pos ⟨by omega, by omega⟩]
    exact (if_pos (by omega)).symm
  · rw [if_neg h1]
    by_cases h2 : 9 ≤ x ∧ x < 21
    · rw [if_pos h2, if_pos h2]
      exact (if_neg (by omega)).symm
    · rw [if_neg h2, if_neg h2]
theorem s182a (hn : 1 < n ∧ n ≤ 12) (hc8 : ∀ c, c < 12 → A (9 + c) ≤ 8) {x1 : Nat} (hx : x1 ≤ 8) : ∀ i, i < n → ev xs L 182 26 [.ref 235, .int (nI x1), .int (nI i)] [] (hS (mw S (acp A (rca n (fun c => A (9 + c)) i)) B C P H ls gv) t) = ev xs L 182 56 [.ref 235, .int (nI x1), .int (nI 0)] [] (hS (mw S (acp A (rca n (fun c => A (9 + c)) 0)) B C P H ls gv) t) := by
  intro i
  induction i with
  | zero =>
    intro _
    rw [r182_26]
    simp (config := { decide := false, maxSteps := 1000000 }) (disch := first | assumption | exact nlg_i _ | exact nlg_r _ | exact nlg_n | omega | decide) only [r182_0, r182_1, r182_4, r182_6, r182_7, r182_10, r182_11, r182_12, r182_13, r182_14, r182_15, r182_16, r182_17, r182_18, r182_21, r182_22, r182_23, r182_24, r182_25, r182_27, r182_30, r182_31, r182_34, r182_36, r182_37, r182_38, r182_39, r182_42, r182_44, r182_45, r182_46, r182_47, r182_48, r182_49, r182_50, r182_53, r182_57, r182_60, r182_62, r182_63, r182_64, r182_65, r182_68, r182_69, r182_70, r182_71, r182_72, r182_75, r182_76, r182_77, r182_80, r182_81, r182_82, r182_83, r182_86, r182_89, r182_92, r182_95, r182_96, r182_99, st_g0_0, st_g0_1, st_g0_2, st_g0_3, st_g0_4, st_p0_4, st_g0_5, st_p0_5, st_g0_6, st_p0_6, st_g0_7, st_p0_7, st_v0, st_g1_0, st_g1_1, st_g1_2, st_g1_3, st_p1_3, st_v1, st_g7_0, st_g7_1, st_p7_1, st_g7_2, st_p7_2, st_v7, st_i2, st_is2, st_i3, st_is3, st_i4, st_is4, st_i5, st_is5, st_i6, st_is6, st_l8, st_ls8, st_y2, st_y3, st_y4, st_y8, st_o100_0, st_o100_1, st_o100_2, st_o100_3, st_o100_4, st_o100_5, st_o100_6, st_o100_7, st_q100_7, st_o100_8, st_q100_8, st_w100, st_o110_0, st_o110_1, st_w110, st_o129_0, st_o129_1, st_q129_1, st_o129_2, st_q129_2, st_w129, st_o205_0, st_o205_1, st_q205_1, st_o205_2, st_o205_3, st_q205_3, st_o205_4, st_q205_4, st_o205_5, st_q205_5, st_o205_6, st_q205_6, st_o205_7, st_q205_7, st_o205_8, st_q205_8, st_o205_9, st_q205_9, st_w205, st_o235_0, st_o235_1, st_o235_2, st_o235_3, st_o235_4, st_o235_5, st_o235_6, st_o235_7, st_q235_7, st_o235_8, st_q235_8, st_o235_9, st_o235_10, st_q235_10, st_o235_11, st_q235_11, st_o235_12, st_q235_12, st_o235_13, st_q235_13, st_o235_14, st_q235_14, st_o235_15, st_q235_15, st_o235_16, st_q235_16, st_o235_17, st_q235_17, st_o235_18, st_q235_18, st_o235_19, st_o235_20, st_o235_21, st_q235_21, st_o235_22, st_q235_22, st_o235_23, st_o235_24, st_q235_24, st_w235, st_a204, st_as204, st_a206, st_as206, st_a216, st_as216, st_a236, st_as236, st_a237, st_as237, st_a238, st_as238, st_a239, st_as239, st_a240, st_as240, st_a241, st_as241, st_a242, st_as242, st_a243, st_as243, st_a244, st_as244, st_a245, st_as245, st_a246, st_as246, st_r130, st_r203, nx_in, nx_clamp, nx_i2n, nx_l2n, nx_add, nx_sub, nx_pred, nx_mul, nx_lt, nx_le, nx_eq, nx_shl, nx_shr, nx_and1, nx_andm, nx_m1, nx_or, nx_dr, nx_rem, nx_kC, nx_ift, nx_iff, ↓nif_lt_t, ↓nif_lt_f, ↓nif_le_t, ↓nif_le_f, ↓nif_eq_t, ↓nif_eq_f, ↓nif_ne_t, ↓nif_ne_f, Nat.one_mul, List.cons_append, List.nil_append, List.append_nil, Option.toList, if_true, if_false, Bool.false_eq_true, and_true, true_and, and_self]
  | succ i ih =>
    intro hi
    have e1 := ih (by omega)
    have e2 := rca_s (n := n) (cap := fun c => A (9 + c)) (i := i + 1) (by omega) hi
    rw [Nat.add_sub_cancel] at e2
    have q1 : rca n (fun c => A (9 + c)) (i + 1) i = A (9 + i) := if_neg (by omega)
    have q2 := hc8 i (by omega)
    rw [q1] at e2
    have q3 : acp A (rca n (fun c => A (9 + c)) (i + 1)) (9 + i) = A (9 + i) := by rw [acp_i (by omega), q1]
    have q4 : upN (acp A (rca n (fun c => A (9 + c)) (i + 1))) (9 + (i + 1)) (A (9 + i)) = acp A (rca n (fun c => A (9 + c)) i) := by rw [acp_s (by omega), e2]
    have q5 : 9 + (i + 1) - 1 = 9 + i := by omega
    rw [r182_26]
    simp (config := { decide := false, maxSteps := 1000000 }) (disch := first | assumption | exact nlg_i _ | exact nlg_r _ | exact nlg_n | omega | decide) only [r182_0, r182_1, r182_4, r182_6, r182_7, r182_10, r182_11, r182_12, r182_13, r182_14, r182_15, r182_16, r182_17, r182_18, r182_21, r182_22, r182_23, r182_24, r182_25, r182_27, r182_30, r182_31, r182_34, r182_36, r182_37, r182_38, r182_39, r182_42, r182_44, r182_45, r182_46, r182_47, r182_48, r182_49, r182_50, r182_53, r182_57, r182_60, r182_62, r182_63, r182_64, r182_65, r182_68, r182_69, r182_70, r182_71, r182_72, r182_75, r182_76, r182_77, r182_80, r182_81, r182_82, r182_83, r182_86, r182_89, r182_92, r182_95, r182_96, r182_99, st_g0_0, st_g0_1, st_g0_2, st_g0_3, st_g0_4, st_p0_4, st_g0_5, st_p0_5, st_g0_6, st_p0_6, st_g0_7, st_p0_7, st_v0, st_g1_0, st_g1_1, st_g1_2, st_g1_3, st_p1_3, st_v1, st_g7_0, st_g7_1, st_p7_1, st_g7_2, st_p7_2, st_v7, st_i2, st_is2, st_i3, st_is3, st_i4, st_is4, st_i5, st_is5, st_i6, st_is6, st_l8, st_ls8, st_y2, st_y3, st_y4, st_y8, st_o100_0, st_o100_1, st_o100_2, st_o100_3, st_o100_4, st_o100_5, st_o100_6, st_o100_7, st_q100_7, st_o100_8, st_q100_8, st_w100, st_o110_0, st_o110_1, st_w110, st_o129_0, st_o129_1, st_q129_1, st_o129_2, st_q129_2, st_w129, st_o205_0, st_o205_1, st_q205_1, st_o205_2, st_o205_3, st_q205_3, st_o205_4, st_q205_4, st_o205_5, st_q205_5, st_o205_6, st_q205_6, st_o205_7, st_q205_7, st_o205_8, st_q205_8, st_o205_9, st_q205_9, st_w205, st_o235_0, st_o235_1, st_o235_2, st_o235_3, st_o235_4, st_o235_5, st_o235_6, st_o235_7, st_q235_7, st_o235_8, st_q235_8, st_o235_9, st_o235_10, st_q235_10, st_o235_11, st_q235_11, st_o235_12, st_q235_12, st_o235_13, st_q235_13, st_o235_14, st_q235_14, st_o235_15, st_q235_15, st_o235_16, st_q235_16, st_o235_17, st_q235_17, st_o235_18, st_q235_18, st_o235_19, st_o235_20, st_o235_21, st_q235_21, st_o235_22, st_q235_22, st_o235_23, st_o235_24, st_q235_24, st_w235, st_a204, st_as204, st_a206, st_as206, st_a216, st_as216, st_a236, st_as236, st_a237, st_as237, st_a238, st_as238, st_a239, st_as239, st_a240, st_as240, st_a241, st_as241, st_a242, st_as242, st_a243, st_as243, st_a244, st_as244, st_a245, st_as245, st_a246, st_as246, st_r130, st_r203, nx_in, nx_clamp, nx_i2n, nx_l2n, nx_add, nx_sub, nx_pred, nx_mul, nx_lt, nx_le, nx_eq, nx_shl, nx_shr, nx_and1, nx_andm, nx_m1, nx_or, nx_dr, nx_rem, nx_kC, nx_ift, nx_iff, mw_A, mw_sA, q5, q3, q4, e1, Nat.add_sub_cancel, ↓nif_lt_t, ↓nif_lt_f, ↓nif_le_t, ↓nif_le_f, ↓nif_eq_t, ↓nif_eq_f, ↓nif_ne_t, ↓nif_ne_f, Nat.one_mul, List.cons_append, List.nil_append, List.append_nil, Option.toList, if_true, if_false, Bool.false_eq_true, and_true, true_and, and_self]
theorem stF_24 (hn : 1 < n) (h8 : ∀ d, d < n → cap d ≤ 8) : ∀ f (b : xB) c, c < n → stO n cap f b c → (∀ d, d < n → b.1 d ≤ 24) → ∀ d, d < n → (stF n cap f b c).1.1 d ≤ 24 := by
  intro f
  induction f with
  | zero => intro b c _ _ h; exact h
  | succ f ih =>
    intro b c hc hO h
    unfold stO at hO
    unfold stF
    split
    · next ho =>
      have hO2 := hO.2 ho
      refine ih _ _ (nxt_lt (by omega)) hO2.2 (fun d hd => ?_)
      show upN (upN b.1 (nxt n c) _) c (cap c) d ≤ 24
      by_cases hdc : d = c
      · rw [hdc, upN_e]
        have := h8 c hc
        omega
      · rw [upN_n hdc]
        by_cases hdx : d = nxt n c
        · rw [hdx, upN_e]
          exact hO2.1
        · rw [upN_n hdx]
          exact h d hd
    · exact h
theorem s182b {x1 : Nat} (hn : 1 < n ∧ n ≤ 12) (hA0 : A 0 = n) (hA : ∀ d, d < n → A (9 + d) = cap d ∧ cap d ≤ 8) : ∀ f c (b : xB) P H gv, f + c = n → bwf n b → (∀ d, d < n → b.1 d ≤ 24) → rotO n cap f b c → sumTo b.1 n ≤ sumTo cap n → prl n b P H → ∃ P' H' gv', prl n (rotL n cap f b c) P' H' ∧ ev xs L 182 70 [.ref 235, .int (nI x1), .int (nI c)] [] (hS (mw S A B C P H ls gv) t) = ev xs L 182 95 [.ref 235, .int (nI x1), .int (nI n)] [] (hS (mw S A B C P' H' ls gv') t) := by
  intro f
  induction f with
  | zero =>
    intro c b P H gv hc hw h24 hO hs hP
    have e0 : c = n := by omega
    refine ⟨P, H, gv, hP, ?_⟩
    rw [r182_70]
    simp (config := { decide := false, maxSteps := 1000000 }) (disch := first | assumption | exact nlg_i _ | exact nlg_r _ | exact nlg_n | omega | decide) only [r182_0, r182_1, r182_4, r182_6, r182_7, r182_10, r182_11, r182_12, r182_13, r182_14, r182_15, r182_16, r182_17, r182_18, r182_21, r182_22, r182_23, r182_24, r182_25, r182_26, r182_27, r182_30, r182_31, r182_34, r182_36, r182_37, r182_38, r182_39, r182_42, r182_44, r182_45, r182_46, r182_47, r182_48, r182_49, r182_50, r182_53, r182_56, r182_57, r182_60, r182_62, r182_63, r182_64, r182_65, r182_68, r182_69, r182_71, r182_72, r182_75, r182_76, r182_77, r182_80, r182_81, r182_82, r182_83, r182_86, r182_89, r182_92, r182_96, r182_99, st_g0_0, st_g0_1, st_g0_2, st_g0_3, st_g0_4, st_p0_4, st_g0_5, st_p0_5, st_g0_6, st_p0_6, st_g0_7, st_p0_7, st_v0, st_g1_0, st_g1_1, st_g1_2, st_g1_3, st_p1_3, st_v1, st_g7_0, st_g7_1, st_p7_1, st_g7_2, st_p7_2, st_v7, st_i2, st_is2, st_i3, st_is3, st_i4, st_is4, st_i5, st_is5, st_i6, st_is6, st_l8, st_ls8, st_y2, st_y3, st_y4, st_y8, st_o100_0, st_o100_1, st_o100_2, st_o100_3, st_o100_4, st_o100_5, st_o100_6, st_o100_7, st_q100_7, st_o100_8, st_q100_8, st_w100, st_o110_0, st_o110_1, st_w110, st_o129_0, st_o129_1, st_q129_1, st_o129_2, st_q129_2, st_w129, st_o205_0, st_o205_1, st_q205_1, st_o205_2, st_o205_3, st_q205_3, st_o205_4, st_q205_4, st_o205_5, st_q205_5, st_o205_6, st_q205_6, st_o205_7, st_q205_7, st_o205_8, st_q205_8, st_o205_9, st_q205_9, st_w205, st_o235_0, st_o235_1, st_o235_2, st_o235_3, st_o235_4, st_o235_5, st_o235_6, st_o235_7, st_q235_7, st_o235_8, st_q235_8, st_o235_9, st_o235_10, st_q235_10, st_o235_11, st_q235_11, st_o235_12, st_q235_12, st_o235_13, st_q235_13, st_o235_14, st_q235_14, st_o235_15, st_q235_15, st_o235_16, st_q235_16, st_o235_17, st_q235_17, st_o235_18, st_q235_18, st_o235_19, st_o235_20, st_o235_21, st_q235_21, st_o235_22, st_q235_22, st_o235_23, st_o235_24, st_q235_24, st_w235, st_a204, st_as204, st_a206, st_as206, st_a216, st_as216, st_a236, st_as236, st_a237, st_as237, st_a238, st_as238, st_a239, st_as239, st_a240, st_as240, st_a241, st_as241, st_a242, st_as242, st_a243, st_as243, st_a244, st_as244, st_a245, st_as245, st_a246, st_as246, st_r130, st_r203, nx_in, nx_clamp, nx_i2n, nx_l2n, nx_add, nx_sub, nx_pred, nx_mul, nx_lt, nx_le, nx_eq, nx_shl, nx_shr, nx_and1, nx_andm, nx_m1, nx_or, nx_dr, nx_rem, nx_kC, nx_ift, nx_iff, mw_A, hA0, e0, ↓nif_lt_t, ↓nif_lt_f, ↓nif_le_t, ↓nif_le_f, ↓nif_eq_t, ↓nif_eq_f, ↓nif_ne_t, ↓nif_ne_f, Nat.one_mul, List.cons_append, List.nil_append, List.append_nil, Option.toList, if_true, if_false, Bool.false_eq_true, and_true, true_and, and_self]
  | succ f ih =>
    intro c b P H gv hc hw h24 hO hs hP
    unfold rotO at hO
    have hcn : c < n := by omega
    have h8 : ∀ d, d < n → cap d ≤ 8 := fun d hd => (hA d hd).2
    obtain ⟨P1, H1, a1, a2⟩ := s180 (xs := xs) (L := L) (S := S) (t := t) (A := A) (B := B) (C := C) (ls := ls) (gv := gv) (cap := cap) hn hA0 hA hcn hw h24 hO.1 (stE_all hn.1 hcn hs) hP
    obtain ⟨P', H', gv', b1, b2⟩ := ih (c + 1) (stF n cap n b c).1 P1 H1 (nI (stF n cap n b c).2) (by omega) (stF_wf hn.1 n b c hw hcn) (stF_24 hn.1 h8 n b c hcn hO.1 h24) hO.2 (by rw [stF_sum hn.1 n b c hcn]; exact hs) a1
    refine ⟨P', H', gv', b1, ?_⟩
    rw [r182_70]
    simp (config := { decide := false, maxSteps := 1000000 }) (disch := first | assumption | exact nlg_i _ | exact nlg_r _ | exact nlg_n | omega | decide) only [r182_0, r182_1, r182_4, r182_6, r182_7, r182_10, r182_11, r182_12, r182_13, r182_14, r182_15, r182_16, r182_17, r182_18, r182_21, r182_22, r182_23, r182_24, r182_25, r182_26, r182_27, r182_30, r182_31, r182_34, r182_36, r182_37, r182_38, r182_39, r182_42, r182_44, r182_45, r182_46, r182_47, r182_48, r182_49, r182_50, r182_53, r182_56, r182_57, r182_60, r182_62, r182_63, r182_64, r182_65, r182_68, r182_69, r182_71, r182_72, r182_75, r182_76, r182_77, r182_80, r182_81, r182_82, r182_83, r182_86, r182_89, r182_92, r182_96, r182_99, st_g0_0, st_g0_1, st_g0_2, st_g0_3, st_g0_4, st_p0_4, st_g0_5, st_p0_5, st_g0_6, st_p0_6, st_g0_7, st_p0_7, st_v0, st_g1_0, st_g1_1, st_g1_2, st_g1_3, st_p1_3, st_v1, st_g7_0, st_g7_1, st_p7_1, st_g7_2, st_p7_2, st_v7, st_i2, st_is2, st_i3, st_is3, st_i4, st_is4, st_i5, st_is5, st_i6, st_is6, st_l8, st_ls8, st_y2, st_y3, st_y4, st_y8, st_o100_0, st_o100_1, st_o100_2, st_o100_3, st_o100_4, st_o100_5, st_o100_6, st_o100_7, st_q100_7, st_o100_8, st_q100_8, st_w100, st_o110_0, st_o110_1, st_w110, st_o129_0, st_o129_1, st_q129_1, st_o129_2, st_q129_2, st_w129, st_o205_0, st_o205_1, st_q205_1, st_o205_2, st_o205_3, st_q205_3, st_o205_4, st_q205_4, st_o205_5, st_q205_5, st_o205_6, st_q205_6, st_o205_7, st_q205_7, st_o205_8, st_q205_8, st_o205_9, st_q205_9, st_w205, st_o235_0, st_o235_1, st_o235_2, st_o235_3, st_o235_4, st_o235_5, st_o235_6, st_o235_7, st_q235_7, st_o235_8, st_q235_8, st_o235_9, st_o235_10, st_q235_10, st_o235_11, st_q235_11, st_o235_12, st_q235_12, st_o235_13, st_q235_13, st_o235_14, st_q235_14, st_o235_15, st_q235_15, st_o235_16, st_q235_16, st_o235_17, st_q235_17, st_o235_18, st_q235_18, st_o235_19, st_o235_20, st_o235_21, st_q235_21, st_o235_22, st_q235_22, st_o235_23, st_o235_24, st_q235_24, st_w235, st_a204, st_as204, st_a206, st_as206, st_a216, st_as216, st_a236, st_as236, st_a237, st_as237, st_a238, st_as238, st_a239, st_as239, st_a240, st_as240, st_a241, st_as241, st_a242, st_as242, st_a243, st_as243, st_a244, st_as244, st_a245, st_as245, st_a246, st_as246, st_r130, st_r203, nx_in, nx_clamp, nx_i2n, nx_l2n, nx_add, nx_sub, nx_pred, nx_mul, nx_lt, nx_le, nx_eq, nx_shl, nx_shr, nx_and1, nx_andm, nx_m1, nx_or, nx_dr, nx_rem, nx_kC, nx_ift, nx_iff, mw_A, mw_sgv, hA0, a2, b2, ↓nif_lt_t, ↓nif_lt_f, ↓nif_le_t, ↓nif_le_f, ↓nif_eq_t, ↓nif_eq_f, ↓nif_ne_t, ↓nif_ne_f, Nat.one_mul, List.cons_append, List.nil_append, List.append_nil, Option.toList, if_true, if_false, Bool.false_eq_true, and_true, true_and, and_self]
theorem s182 (hg : gok r) (hl : hle r) (hm : mrel A r) : ∃ P' H' gv', ev xs L 182 0 [.ref 235, .null, .null] [] (hS (mw S A B C P H ls gv) t) = some (.inl none, hS (mw S (astk (acp A (rcap (r 1 3) (fun c => A (9 + c)))) (rotL (r 1 3) (rcap (r 1 3) (r 2)) (r 1 3) (r 3, r 4) 0) (r 1 3)) B C P' H' ls gv') t) := by
  have hn := hg.1
  have hc8 : ∀ c, c < 12 → A (9 + c) ≤ 8 := by
    intro c hc
    by_cases h : c < r 1 3
    · rw [(hm.2.1 c h).1]
      exact (hg.2.1 c hc).1
    · rw [(hm.2.2 c (by omega) hc).1]
      exact Nat.zero_le _
  have hlast := hc8 (r 1 3 - 1) (by omega)
  have e1 := s182a (xs := xs) (L := L) (S := S) (t := t) (A := A) (B := B) (C := C) (P := P) (H := H) (ls := ls) (gv := gv) (n := r 1 3) ⟨by omega, hn.2⟩ hc8 hlast (r 1 3 - 1) (by omega)
  rw [rca_0, acp_self] at e1
  have e2 : upN (acp A (rca (r 1 3) (fun c => A (9 + c)) 0)) 9 (A (9 + (r 1 3 - 1))) = acp A (rcap (r 1 3) (fun c => A (9 + c))) := acp_s (A := A) (c := 0) (by decide)
  have hcapeq : ∀ d, d < r 1 3 → acp A (rcap (r 1 3) (fun c => A (9 + c))) (9 + d) = rcap (r 1 3) (r 2) d ∧ rcap (r 1 3) (r 2) d ≤ 8 := by
    intro d hd
    refine ⟨?_, rcap_8 ⟨by omega, hn.2⟩ (fun c hc => (hg.2.1 c hc).1) d (by omega)⟩
    rw [acp_i (by omega)]
    cases d with
    | zero =>
      rw [rcap_0, rcap_0]
      exact (hm.2.1 _ (by omega)).1
    | succ d =>
      rw [rcap_s hd, rcap_s hd]
      exact (hm.2.1 _ (by omega)).1
  have hA0 : acp A (rcap (r 1 3) (fun c => A (9 + c))) 0 = r 1 3 := by rw [acp_o (by omega)]; exact hm.1.1
  obtain ⟨P1, H1, p1, p2⟩ := s178 (xs := xs) (L := L) (S := S) (t := t) (A := acp A (rcap (r 1 3) (fun c => A (9 + c)))) (B := B) (C := C) (P := P) (H := H) (ls := ls) (gv := gv) (b := (r 3, r 4)) hn.2 (fun x hx => (hg.2.1 x (by omega)).2.1) (gok_bwf hg) hA0 (fun x hx => by rw [acp_o (by omega)]; exact (hm.2.1 x hx).2)
  have hsum : sumTo (r 3, r 4).1 (r 1 3) ≤ sumTo (rcap (r 1 3) (r 2)) (r 1 3) := by
    rw [rcap_sumn (by omega)]
    exact sumTo_le _ hl
  have key := rot_ok (n := r 1 3) (cap := rcap (r 1 3) (r 2)) (by omega) (fun d hd => (hcapeq d hd).2) (r 1 3) (r 3, r 4) 0 0 rfl (Nat.le_refl _) (by omega) hsum (fun d hd => by omega) (fun d _ hd => by
    rw [rcap_nxt hd]
    exact hl d hd)
  obtain ⟨P', H', gv', b1, b2⟩ := s182b (xs := xs) (L := L) (S := S) (t := t) (A := acp A (rcap (r 1 3) (fun c => A (9 + c)))) (B := B) (C := C) (ls := ls) (cap := rcap (r 1 3) (r 2)) (x1 := A (9 + (r 1 3 - 1))) ⟨by omega, hn.2⟩ hA0 hcapeq (r 1 3) 0 (r 3, r 4) P1 H1 gv rfl (gok_bwf hg) (fun d hd => by have := (hg.2.1 d (by omega)).2.1; show r 3 d ≤ 24; omega) key.1 hsum p1
  have hw := rotL_wf (cap := rcap (r 1 3) (r 2)) (n := r 1 3) (by omega) (r 1 3) (r 3, r 4) 0 rfl (gok_bwf hg)
  have e6 := s181 (xs := xs) (L := L) (S := S) (t := t) (A := acp A (rcap (r 1 3) (fun c => A (9 + c)))) (B := B) (C := C) (ls := ls) (gv := gv') (b := rotL (r 1 3) (rcap (r 1 3) (r 2)) (r 1 3) (r 3, r 4) 0) hn.2 (fun x hx => Nat.le_trans (key.2.1 x hx) (hcapeq x hx).2) hw hA0 b1
  refine ⟨P', H', gv', ?_⟩
  have q5 : 9 + r 1 3 - 1 = 9 + (r 1 3 - 1) := by omega
  simp (config := { decide := false, maxSteps := 1000000 }) (disch := first | assumption | exact nlg_i _ | exact nlg_r _ | exact nlg_n | omega | decide) only [r182_0, r182_1, r182_4, r182_6, r182_7, r182_10, r182_11, r182_12, r182_13, r182_14, r182_15, r182_16, r182_17, r182_18, r182_21, r182_22, r182_23, r182_24, r182_25, r182_27, r182_30, r182_31, r182_34, r182_36, r182_37, r182_38, r182_39, r182_42, r182_44, r182_45, r182_46, r182_47, r182_48, r182_49, r182_50, r182_53, r182_57, r182_60, r182_62, r182_63, r182_64, r182_65, r182_68, r182_69, r182_71, r182_72, r182_75, r182_76, r182_77, r182_80, r182_81, r182_82, r182_83, r182_86, r182_89, r182_92, r182_96, r182_99, st_g0_0, st_g0_1, st_g0_2, st_g0_3, st_g0_4, st_p0_4, st_g0_5, st_p0_5, st_g0_6, st_p0_6, st_g0_7, st_p0_7, st_v0, st_g1_0, st_g1_1, st_g1_2, st_g1_3, st_p1_3, st_v1, st_g7_0, st_g7_1, st_p7_1, st_g7_2, st_p7_2, st_v7, st_i2, st_is2, st_i3, st_is3, st_i4, st_is4, st_i5, st_is5, st_i6, st_is6, st_l8, st_ls8, st_y2, st_y3, st_y4, st_y8, st_o100_0, st_o100_1, st_o100_2, st_o100_3, st_o100_4, st_o100_5, st_o100_6, st_o100_7, st_q100_7, st_o100_8, st_q100_8, st_w100, st_o110_0, st_o110_1, st_w110, st_o129_0, st_o129_1, st_q129_1, st_o129_2, st_q129_2, st_w129, st_o205_0, st_o205_1, st_q205_1, st_o205_2, st_o205_3, st_q205_3, st_o205_4, st_q205_4, st_o205_5, st_q205_5, st_o205_6, st_q205_6, st_o205_7, st_q205_7, st_o205_8, st_q205_8, st_o205_9, st_q205_9, st_w205, st_o235_0, st_o235_1, st_o235_2, st_o235_3, st_o235_4, st_o235_5, st_o235_6, st_o235_7, st_q235_7, st_o235_8, st_q235_8, st_o235_9, st_o235_10, st_q235_10, st_o235_11, st_q235_11, st_o235_12, st_q235_12, st_o235_13, st_q235_13, st_o235_14, st_q235_14, st_o235_15, st_q235_15, st_o235_16, st_q235_16, st_o235_17, st_q235_17, st_o235_18, st_q235_18, st_o235_19, st_o235_20, st_o235_21, st_q235_21, st_o235_22, st_q235_22, st_o235_23, st_o235_24, st_q235_24, st_w235, st_a204, st_as204, st_a206, st_as206, st_a216, st_as216, st_a236, st_as236, st_a237, st_as237, st_a238, st_as238, st_a239, st_as239, st_a240, st_as240, st_a241, st_as241, st_a242, st_as242, st_a243, st_as243, st_a244, st_as244, st_a245, st_as245, st_a246, st_as246, st_r130, st_r203, nx_in, nx_clamp, nx_i2n, nx_l2n, nx_add, nx_sub, nx_pred, nx_mul, nx_lt, nx_le, nx_eq, nx_shl, nx_shr, nx_and1, nx_andm, nx_m1, nx_or, nx_dr, nx_rem, nx_kC, nx_ift, nx_iff, mw_A, hm.1.1, q5, e1, ↓nif_lt_t, ↓nif_lt_f, ↓nif_le_t, ↓nif_le_f, ↓nif_eq_t, ↓nif_eq_f, ↓nif_ne_t, ↓nif_ne_f, Nat.one_mul, List.cons_append, List.nil_append, List.append_nil, Option.toList, if_true, if_false, Bool.false_eq_true, and_true, true_and, and_self]
  rw [r182_56]
  simp (config := { decide := false, maxSteps := 1000000 }) (disch := first | assumption | exact nlg_i _ | exact nlg_r _ | exact nlg_n | omega | decide) only [r182_0, r182_1, r182_4, r182_6, r182_7, r182_10, r182_11, r182_12, r182_13, r182_14, r182_15, r182_16, r182_17, r182_18, r182_21, r182_22, r182_23, r182_24, r182_25, r182_27, r182_30, r182_31, r182_34, r182_36, r182_37, r182_38, r182_39, r182_42, r182_44, r182_45, r182_46, r182_47, r182_48, r182_49, r182_50, r182_53, r182_57, r182_60, r182_62, r182_63, r182_64, r182_65, r182_68, r182_69, r182_71, r182_72, r182_75, r182_76, r182_77, r182_80, r182_81, r182_82, r182_83, r182_86, r182_89, r182_92, r182_96, r182_99, st_g0_0, st_g0_1, st_g0_2, st_g0_3, st_g0_4, st_p0_4, st_g0_5, st_p0_5, st_g0_6, st_p0_6, st_g0_7, st_p0_7, st_v0, st_g1_0, st_g1_1, st_g1_2, st_g1_3, st_p1_3, st_v1, st_g7_0, st_g7_1, st_p7_1, st_g7_2, st_p7_2, st_v7, st_i2, st_is2, st_i3, st_is3, st_i4, st_is4, st_i5, st_is5, st_i6, st_is6, st_l8, st_ls8, st_y2, st_y3, st_y4, st_y8, st_o100_0, st_o100_1, st_o100_2, st_o100_3, st_o100_4, st_o100_5, st_o100_6, st_o100_7, st_q100_7, st_o100_8, st_q100_8, st_w100, st_o110_0, st_o110_1, st_w110, st_o129_0, st_o129_1, st_q129_1, st_o129_2, st_q129_2, st_w129, st_o205_0, st_o205_1, st_q205_1, st_o205_2, st_o205_3, st_q205_3, st_o205_4, st_q205_4, st_o205_5, st_q205_5, st_o205_6, st_q205_6, st_o205_7, st_q205_7, st_o205_8, st_q205_8, st_o205_9, st_q205_9, st_w205, st_o235_0, st_o235_1, st_o235_2, st_o235_3, st_o235_4, st_o235_5, st_o235_6, st_o235_7, st_q235_7, st_o235_8, st_q235_8, st_o235_9, st_o235_10, st_q235_10, st_o235_11, st_q235_11, st_o235_12, st_q235_12, st_o235_13, st_q235_13, st_o235_14, st_q235_14, st_o235_15, st_q235_15, st_o235_16, st_q235_16, st_o235_17, st_q235_17, st_o235_18, st_q235_18, st_o235_19, st_o235_20, st_o235_21, st_q235_21, st_o235_22, st_q235_22, st_o235_23, st_o235_24, st_q235_24, st_w235, st_a204, st_as204, st_a206, st_as206, st_a216, st_as216, st_a236, st_as236, st_a237, st_as237, st_a238, st_as238, st_a239, st_as239, st_a240, st_as240, st_a241, st_as241, st_a242, st_as242, st_a243, st_as243, st_a244, st_as244, st_a245, st_as245, st_a246, st_as246, st_r130, st_r203, nx_in, nx_clamp, nx_i2n, nx_l2n, nx_add, nx_sub, nx_pred, nx_mul, nx_lt, nx_le, nx_eq, nx_shl, nx_shr, nx_and1, nx_andm, nx_m1, nx_or, nx_dr, nx_rem, nx_kC, nx_ift, nx_iff, mw_A, mw_sA, e2, p2, b2, ↓nif_lt_t, ↓nif_lt_f, ↓nif_le_t, ↓nif_le_f, ↓nif_eq_t, ↓nif_eq_f, ↓nif_ne_t, ↓nif_ne_f, Nat.one_mul, List.cons_append, List.nil_append, List.append_nil, Option.toList, if_true, if_false, Bool.false_eq_true, and_true, true_and, and_self]
  rw [r182_95]
  simp (config := { decide := false, maxSteps := 1000000 }) (disch := first | assumption | exact nlg_i _ | exact nlg_r _ | exact nlg_n | omega | decide) only [r182_0, r182_1, r182_4, r182_6, r182_7, r182_10, r182_11, r182_12, r182_13, r182_14, r182_15, r182_16, r182_17, r182_18, r182_21, r182_22, r182_23, r182_24, r182_25, r182_27, r182_30, r182_31, r182_34, r182_36, r182_37, r182_38, r182_39, r182_42, r182_44, r182_45, r182_46, r182_47, r182_48, r182_49, r182_50, r182_53, r182_57, r182_60, r182_62, r182_63, r182_64, r182_65, r182_68, r182_69, r182_71, r182_72, r182_75, r182_76, r182_77, r182_80, r182_81, r182_82, r182_83, r182_86, r182_89, r182_92, r182_96, r182_99, st_g0_0, st_g0_1, st_g0_2, st_g0_3, st_g0_4, st_p0_4, st_g0_5, st_p0_5, st_g0_6, st_p0_6, st_g0_7, st_p0_7, st_v0, st_g1_0, st_g1_1, st_g1_2, st_g1_3, st_p1_3, st_v1, st_g7_0, st_g7_1, st_p7_1, st_g7_2, st_p7_2, st_v7, st_i2, st_is2, st_i3, st_is3, st_i4, st_is4, st_i5, st_is5, st_i6, st_is6, st_l8, st_ls8, st_y2, st_y3, st_y4, st_y8, st_o100_0, st_o100_1, st_o100_2, st_o100_3, st_o100_4, st_o100_5, st_o100_6, st_o100_7, st_q100_7, st_o100_8, st_q100_8, st_w100, st_o110_0, st_o110_1, st_w110, st_o129_0, st_o129_1, st_q129_1, st_o129_2, st_q129_2, st_w129, st_o205_0, st_o205_1, st_q205_1, st_o205_2, st_o205_3, st_q205_3, st_o205_4, st_q205_4, st_o205_5, st_q205_5, st_o205_6, st_q205_6, st_o205_7, st_q205_7, st_o205_8, st_q205_8, st_o205_9, st_q205_9, st_w205, st_o235_0, st_o235_1, st_o235_2, st_o235_3, st_o235_4, st_o235_5, st_o235_6, st_o235_7, st_q235_7, st_o235_8, st_q235_8, st_o235_9, st_o235_10, st_q235_10, st_o235_11, st_q235_11, st_o235_12, st_q235_12, st_o235_13, st_q235_13, st_o235_14, st_q235_14, st_o235_15, st_q235_15, st_o235_16, st_q235_16, st_o235_17, st_q235_17, st_o235_18, st_q235_18, st_o235_19, st_o235_20, st_o235_21, st_q235_21, st_o235_22, st_q235_22, st_o235_23, st_o235_24, st_q235_24, st_w235, st_a204, st_as204, st_a206, st_as206, st_a216, st_as216, st_a236, st_as236, st_a237, st_as237, st_a238, st_as238, st_a239, st_as239, st_a240, st_as240, st_a241, st_as241, st_a242, st_as242, st_a243, st_as243, st_a244, st_as244, st_a245, st_as245, st_a246, st_as246, st_r130, st_r203, nx_in, nx_clamp, nx_i2n, nx_l2n, nx_add, nx_sub, nx_pred, nx_mul, nx_lt, nx_le, nx_eq, nx_shl, nx_shr, nx_and1, nx_andm, nx_m1, nx_or, nx_dr, nx_rem, nx_kC, nx_ift, nx_iff, e6, ↓nif_lt_t, ↓nif_lt_f, ↓nif_le_t, ↓nif_le_f, ↓nif_eq_t, ↓nif_eq_f, ↓nif_ne_t, ↓nif_ne_f, Nat.one_mul, List.cons_append, List.nil_append, List.append_nil, Option.toList, if_true, if_false, Bool.false_eq_true, and_true, true_and, and_self]
end XMT
