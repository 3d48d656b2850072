section XMW
variable {xs : Nat → Int32} {L : Nat} {S : xS} {t : Nat × Nat × Nat} {A B C P H : Nat → Nat} {ls gv : Int32} {n c : Nat}
/-- the store with the model's row and its scratch rows replaced -/
def mw (S : xS) (A B C P H : Nat → Nat) (ls gv : Int32) : xS := (S.1, S.2.1, fun id => if id = 236 then A else if id = 239 then B else if id = 238 then C else if id = 244 then P else if id = 245 then H else S.2.2.1 id, fun id i => if id = 235 ∧ i = 21 then ls else if id = 235 ∧ i = 22 then gv else S.2.2.2.1 id i, S.2.2.2.2)
theorem mw_A : (mw S A B C P H ls gv).2.2.1 236 = A := rfl
theorem mw_B : (mw S A B C P H ls gv).2.2.1 239 = B := rfl
theorem mw_C : (mw S A B C P H ls gv).2.2.1 238 = C := rfl
theorem mw_P : (mw S A B C P H ls gv).2.2.1 244 = P := rfl
theorem mw_H : (mw S A B C P H ls gv).2.2.1 245 = H := rfl
theorem mw_ls : (mw S A B C P H ls gv).2.2.2.1 235 21 = ls := rfl
theorem mw_gv : (mw S A B C P H ls gv).2.2.2.1 235 22 = gv := rfl
theorem mw_1 : (mw S A B C P H ls gv).1 = S.1 := rfl
theorem mw_2 : (mw S A B C P H ls gv).2.1 = S.2.1 := rfl
theorem mw_sA {i v : Nat} : sM (mw S A B C P H ls gv) 236 i v = mw S (upN A i v) B C P H ls gv := by
  refine Prod.ext rfl (Prod.ext rfl (Prod.ext ?_ rfl))
  funext id i'
  show (if id = 236 ∧ i' = i then v else (if id = 236 then A else if id = 239 then B else if id = 238 then C else if id = 244 then P else if id = 245 then H else S.2.2.1 id) i') = (if id = 236 then upN A i v else if id = 239 then B else if id = 238 then C else if id = 244 then P else if id = 245 then H else S.2.2.1 id) i'
  by_cases h : id = 236
  · subst h
    simp [upN]
  · simp [h]
theorem mw_sB {i v : Nat} : sM (mw S A B C P H ls gv) 239 i v = mw S A (upN B i v) C P H ls gv := by
  refine Prod.ext rfl (Prod.ext rfl (Prod.ext ?_ rfl))
  funext id i'
  show (if id = 239 ∧ i' = i then v else (if id = 236 then A else if id = 239 then B else if id = 238 then C else if id = 244 then P else if id = 245 then H else S.2.2.1 id) i') = (if id = 236 then A else if id = 239 then upN B i v else if id = 238 then C else if id = 244 then P else if id = 245 then H else S.2.2.1 id) i'
  by_cases h : id = 239
  · subst h
    simp [upN]
  · simp [h]
theorem mw_sC {i v : Nat} : sM (mw S A B C P H ls gv) 238 i v = mw S A B (upN C i v) P H ls gv := by
  refine Prod.ext rfl (Prod.ext rfl (Prod.ext ?_ rfl))
  funext id i'
  show (if id = 238 ∧ i' = i then v else (if id = 236 then A else if id = 239 then B else if id = 238 then C else if id = 244 then P else if id = 245 then H else S.2.2.1 id) i') = (if id = 236 then A else if id = 239 then B else if id = 238 then upN C i v else if id = 244 then P else if id = 245 then H else S.2.2.1 id) i'
  by_cases h : id = 238
  · subst h
    simp [upN]
  · simp [h]
theorem mw_sP {i v : Nat} : sM (mw S A B C P H ls gv) 244 i v = mw S A B C (upN P i v) H ls gv := by
  refine Prod.ext rfl (Prod.ext rfl (Prod.ext ?_ rfl))
  funext id i'
  show (if id = 244 ∧ i' = i then v else (if id = 236 then A else if id = 239 then B else if id = 238 then C else if id = 244 then P else if id = 245 then H else S.2.2.1 id) i') = (if id = 236 then A else if id = 239 then B else if id = 238 then C else if id = 244 then upN P i v else if id = 245 then H else S.2.2.1 id) i'
  by_cases h : id = 244
  · subst h
    simp [upN]
  · simp [h]
theorem mw_sH {i v : Nat} : sM (mw S A B C P H ls gv) 245 i v = mw S A B C P (upN H i v) ls gv := by
  refine Prod.ext rfl (Prod.ext rfl (Prod.ext ?_ rfl))
  funext id i'
  show (if id = 245 ∧ i' = i then v else (if id = 236 then A else if id = 239 then B else if id = 238 then C else if id = 244 then P else if id = 245 then H else S.2.2.1 id) i') = (if id = 236 then A else if id = 239 then B else if id = 238 then C else if id = 244 then P else if id = 245 then upN H i v else S.2.2.1 id) i'
  by_cases h : id = 245
  · subst h
    simp [upN]
  · simp [h]
theorem mw_sls {v : Int32} : sI (mw S A B C P H ls gv) 235 21 v = mw S A B C P H v gv := by
  refine Prod.ext rfl (Prod.ext rfl (Prod.ext rfl (Prod.ext ?_ rfl)))
  funext id i'
  show (if id = 235 ∧ i' = 21 then v else if id = 235 ∧ i' = 21 then ls else if id = 235 ∧ i' = 22 then gv else S.2.2.2.1 id i') = (if id = 235 ∧ i' = 21 then v else if id = 235 ∧ i' = 22 then gv else S.2.2.2.1 id i')
  by_cases h : id = 235 ∧ i' = 21
  · rw [if_pos h, if_pos h]
  · rw [if_neg h, if_neg h, if_neg h]
theorem mw_sgv {v : Int32} : sI (mw S A B C P H ls gv) 235 22 v = mw S A B C P H ls v := by
  refine Prod.ext rfl (Prod.ext rfl (Prod.ext rfl (Prod.ext ?_ rfl)))
  funext id i'
  show (if id = 235 ∧ i' = 22 then v else if id = 235 ∧ i' = 21 then ls else if id = 235 ∧ i' = 22 then gv else S.2.2.2.1 id i') = (if id = 235 ∧ i' = 21 then ls else if id = 235 ∧ i' = 22 then v else S.2.2.2.1 id i')
  by_cases h : id = 235 ∧ i' = 22
  · rw [if_pos h, if_pos h, if_neg (fun z => by omega)]
  · rw [if_neg h, if_neg h, if_neg h]
theorem mw_self : mw S (S.2.2.1 236) (S.2.2.1 239) (S.2.2.1 238) (S.2.2.1 244) (S.2.2.1 245) (S.2.2.2.1 235 21) (S.2.2.2.1 235 22) = S := by
  refine Prod.ext rfl (Prod.ext rfl (Prod.ext ?_ (Prod.ext ?_ rfl)))
  · funext id
    show (if id = 236 then S.2.2.1 236 else if id = 239 then S.2.2.1 239 else if id = 238 then S.2.2.1 238 else if id = 244 then S.2.2.1 244 else if id = 245 then S.2.2.1 245 else S.2.2.1 id) = S.2.2.1 id
    split
    · next h => rw [h]
    · split
      · next h => rw [h]
      · split
        · next h => rw [h]
        · split
          · next h => rw [h]
          · split
            · next h => rw [h]
            · rfl
  · funext id i
    show (if id = 235 ∧ i = 21 then S.2.2.2.1 235 21 else if id = 235 ∧ i = 22 then S.2.2.2.1 235 22 else S.2.2.2.1 id i) = S.2.2.2.1 id i
    split
    · next h => rw [h.1, h.2]
    · split
      · next h => rw [h.1, h.2]
      · rfl
/-- the piles tell the board b of the first n cells -/
def prl (n : Nat) (b : xB) (P H : Nat → Nat) : Prop := ∀ c, c < n → H c = b.1 c ∧ ∀ k, k < b.1 c → P (100 * c + k) = 1 + b.2 c / 2 ^ k % 2
theorem s131w (hc : c < 12) : ev xs L 131 0 [.ref 235, .int (nI c)] [] (hS (mw S A B C P H ls gv) t) = some (.inl (some (.int (nI (A (21 + c))))), hS (mw S A B C P H ls gv) t) := by
  have e := s131 (xs := xs) (L := L) (S := mw S A B C P H ls gv) (t := t) hc
  rw [mw_A] at e
  exact e
theorem s178i (hc : c < 12) {h p : Nat} (h8 : h ≤ 8) (hp : p < 2 ^ h) (hA : A (21 + c) = stn h p) (hH : H c = h) : ∀ f k P, f + k = h → (∀ j, j < k → P (100 * c + j) = 1 + p / 2 ^ j % 2) → ∃ P', (∀ x, x < 100 * c → P' x = P x) ∧ (∀ j, j < h → P' (100 * c + j) = 1 + p / 2 ^ j % 2) ∧ ev xs L 178 28 [.ref 235, .int (nI c), .int (nI k)] [] (hS (mw S A B C P H ls gv) t) = ev xs L 178 64 [.ref 235, .int (nI c), .int (nI h)] [] (hS (mw S A B C P' H ls gv) t) := by
  intro f
  induction f with
  | zero =>
    intro k P hk hP
    have e0 : k = h := by omega
    refine ⟨P, fun _ _ => rfl, fun j hj => hP j (by omega), ?_⟩
    rw [r178_28]
    simp (config := { decide := false, maxSteps := 1000000 }) (disch := first | assumption | exact nlg_i _ | exact nlg_r _ | exact nlg_n | omega | decide) only [r178_0, r178_1, r178_2, r178_3, r178_4, r178_7, r178_8, r178_9, r178_12, r178_13, r178_16, r178_17, r178_18, r178_19, r178_22, r178_25, r178_26, r178_27, r178_29, r178_30, r178_33, r178_34, r178_35, r178_38, r178_39, r178_42, r178_44, r178_45, r178_46, r178_47, r178_48, r178_49, r178_50, r178_53, r178_54, r178_57, r178_58, r178_61, r178_67, r178_70, st_g0_0, st_g0_1, st_g0_2, st_g0_3, st_g0_4, st_p0_4, st_g0_5, st_p0_5, st_g0_6, st_p0_6, st_g0_7, st_p0_7, st_v0, st_g1_0, st_g1_1, st_g1_2, st_g1_3, st_p1_3, st_v1, st_g7_0, st_g7_1, st_p7_1, st_g7_2, st_p7_2, st_v7, st_i2, st_is2, st_i3, st_is3, st_i4, st_is4, st_i5, st_is5, st_i6, st_is6, st_l8, st_ls8, st_y2, st_y3, st_y4, st_y8, st_o100_0, st_o100_1, st_o100_2, st_o100_3, st_o100_4, st_o100_5, st_o100_6, st_o100_7, st_q100_7, st_o100_8, st_q100_8, st_w100, st_o110_0, st_o110_1, st_w110, st_o129_0, st_o129_1, st_q129_1, st_o129_2, st_q129_2, st_w129, st_o205_0, st_o205_1, st_q205_1, st_o205_2, st_o205_3, st_q205_3, st_o205_4, st_q205_4, st_o205_5, st_q205_5, st_o205_6, st_q205_6, st_o205_7, st_q205_7, st_o205_8, st_q205_8, st_o205_9, st_q205_9, st_w205, st_o235_0, st_o235_1, st_o235_2, st_o235_3, st_o235_4, st_o235_5, st_o235_6, st_o235_7, st_q235_7, st_o235_8, st_q235_8, st_o235_9, st_o235_10, st_q235_10, st_o235_11, st_q235_11, st_o235_12, st_q235_12, st_o235_13, st_q235_13, st_o235_14, st_q235_14, st_o235_15, st_q235_15, st_o235_16, st_q235_16, st_o235_17, st_q235_17, st_o235_18, st_q235_18, st_o235_19, st_o235_20, st_o235_21, st_q235_21, st_o235_22, st_q235_22, st_o235_23, st_o235_24, st_q235_24, st_w235, st_a204, st_as204, st_a206, st_as206, st_a216, st_as216, st_a236, st_as236, st_a237, st_as237, st_a238, st_as238, st_a239, st_as239, st_a240, st_as240, st_a241, st_as241, st_a242, st_as242, st_a243, st_as243, st_a244, st_as244, st_a245, st_as245, st_a246, st_as246, st_r130, st_r203, nx_in, nx_clamp, nx_i2n, nx_l2n, nx_add, nx_sub, nx_pred, nx_mul, nx_lt, nx_le, nx_eq, nx_shl, nx_shr, nx_and1, nx_andm, nx_m1, nx_or, nx_dr, nx_rem, nx_kC, nx_ift, nx_iff, mw_A, mw_H, hH, e0, ↓nif_lt_t, ↓nif_lt_f, ↓nif_le_t, ↓nif_le_f, ↓nif_eq_t, ↓nif_eq_f, ↓nif_ne_t, ↓nif_ne_f, Nat.one_mul, List.cons_append, List.nil_append, List.append_nil, Option.toList, if_true, if_false, Bool.false_eq_true, and_true, true_and, and_self]
  | succ f ih =>
    intro k P hk hP
    have e2 := s131w (xs := xs) (L := L) (S := S) (t := t) (A := A) (B := B) (C := C) (P := P) (H := H) (ls := ls) (gv := gv) hc
    rw [hA] at e2
    have e3 := s159 (xs := xs) (L := L) (h := h) (p := p) (k := k) (by omega) hp (by omega) (hS (mw S A B C P H ls gv) t)
    obtain ⟨P', a1, a2, a3⟩ := ih (k + 1) (upN P (100 * c + k) (1 + p / 2 ^ k % 2)) (by omega) (fun j hj => by
      by_cases hjk : j = k
      · rw [hjk, upN_e]
      · rw [upN_n (by omega)]
        exact hP j (by omega))
    refine ⟨P', fun x hx => by rw [a1 x hx, upN_n (by omega)], a2, ?_⟩
    rw [r178_28]
    simp (config := { decide := false, maxSteps := 1000000 }) (disch := first | assumption | exact nlg_i _ | exact nlg_r _ | exact nlg_n | omega | decide) only [r178_0, r178_1, r178_2, r178_3, r178_4, r178_7, r178_8, r178_9, r178_12, r178_13, r178_16, r178_17, r178_18, r178_19, r178_22, r178_25, r178_26, r178_27, r178_29, r178_30, r178_33, r178_34, r178_35, r178_38, r178_39, r178_42, r178_44, r178_45, r178_46, r178_47, r178_48, r178_49, r178_50, r178_53, r178_54, r178_57, r178_58, r178_61, r178_67, r178_70, st_g0_0, st_g0_1, st_g0_2, st_g0_3, st_g0_4, st_p0_4, st_g0_5, st_p0_5, st_g0_6, st_p0_6, st_g0_7, st_p0_7, st_v0, st_g1_0, st_g1_1, st_g1_2, st_g1_3, st_p1_3, st_v1, st_g7_0, st_g7_1, st_p7_1, st_g7_2, st_p7_2, st_v7, st_i2, st_is2, st_i3, st_is3, st_i4, st_is4, st_i5, st_is5, st_i6, st_is6, st_l8, st_ls8, st_y2, st_y3, st_y4, st_y8, st_o100_0, st_o100_1, st_o100_2, st_o100_3, st_o100_4, st_o100_5, st_o100_6, st_o100_7, st_q100_7, st_o100_8, st_q100_8, st_w100, st_o110_0, st_o110_1, st_w110, st_o129_0, st_o129_1, st_q129_1, st_o129_2, st_q129_2, st_w129, st_o205_0, st_o205_1, st_q205_1, st_o205_2, st_o205_3, st_q205_3, st_o205_4, st_q205_4, st_o205_5, st_q205_5, st_o205_6, st_q205_6, st_o205_7, st_q205_7, st_o205_8, st_q205_8, st_o205_9, st_q205_9, st_w205, st_o235_0, st_o235_1, st_o235_2, st_o235_3, st_o235_4, st_o235_5, st_o235_6, st_o235_7, st_q235_7, st_o235_8, st_q235_8, st_o235_9, st_o235_10, st_q235_10, st_o235_11, st_q235_11, st_o235_12, st_q235_12, st_o235_13, st_q235_13, st_o235_14, st_q235_14, st_o235_15, st_q235_15, st_o235_16, st_q235_16, st_o235_17, st_q235_17, st_o235_18, st_q235_18, st_o235_19, st_o235_20, st_o235_21, st_q235_21, st_o235_22, st_q235_22, st_o235_23, st_o235_24, st_q235_24, st_w235, st_a204, st_as204, st_a206, st_as206, st_a216, st_as216, st_a236, st_as236, st_a237, st_as237, st_a238, st_as238, st_a239, st_as239, st_a240, st_as240, st_a241, st_as241, st_a242, st_as242, st_a243, st_as243, st_a244, st_as244, st_a245, st_as245, st_a246, st_as246, st_r130, st_r203, nx_in, nx_clamp, nx_i2n, nx_l2n, nx_add, nx_sub, nx_pred, nx_mul, nx_lt, nx_le, nx_eq, nx_shl, nx_shr, nx_and1, nx_andm, nx_m1, nx_or, nx_dr, nx_rem, nx_kC, nx_ift, nx_iff, mw_A, mw_H, mw_sP, hH, e2, e3, a3, ↓nif_lt_t, ↓nif_lt_f, ↓nif_le_t, ↓nif_le_f, ↓nif_eq_t, ↓nif_eq_f, ↓nif_ne_t, ↓nif_ne_f, Nat.one_mul, List.cons_append, List.nil_append, List.append_nil, Option.toList, if_true, if_false, Bool.false_eq_true, and_true, true_and, and_self]
theorem s178h {b : xB} (hn : n ≤ 12) (h8 : ∀ c, c < n → b.1 c ≤ 8) (hw : bwf n b) (hA0 : A 0 = n) (hA : ∀ c, c < n → A (21 + c) = stn (b.1 c) (b.2 c)) : ∀ f c P H x2, f + c = n → prl c b P H → ∃ P' H', prl n b P' H' ∧ ev xs L 178 2 [.ref 235, .int (nI c), x2] [] (hS (mw S A B C P H ls gv) t) = some (.inl none, hS (mw S A B C P' H' ls gv) t) := by
  intro f
  induction f with
  | zero =>
    intro c P H x2 hc hP
    have e0 : c = n := by omega
    rw [e0] at hP
    refine ⟨P, H, hP, ?_⟩
    rw [r178_2]
    simp (config := { decide := false, maxSteps := 1000000 }) (disch := first | assumption | exact nlg_i _ | exact nlg_r _ | exact nlg_n | omega | decide) only [r178_0, r178_1, r178_3, r178_4, r178_7, r178_8, r178_9, r178_12, r178_13, r178_16, r178_17, r178_18, r178_19, r178_22, r178_25, r178_26, r178_27, r178_28, r178_29, r178_30, r178_33, r178_34, r178_35, r178_38, r178_39, r178_42, r178_44, r178_45, r178_46, r178_47, r178_48, r178_49, r178_50, r178_53, r178_54, r178_57, r178_58, r178_61, r178_64, r178_67, r178_70, st_g0_0, st_g0_1, st_g0_2, st_g0_3, st_g0_4, st_p0_4, st_g0_5, st_p0_5, st_g0_6, st_p0_6, st_g0_7, st_p0_7, st_v0, st_g1_0, st_g1_1, st_g1_2, st_g1_3, st_p1_3, st_v1, st_g7_0, st_g7_1, st_p7_1, st_g7_2, st_p7_2, st_v7, st_i2, st_is2, st_i3, st_is3, st_i4, st_is4, st_i5, st_is5, st_i6, st_is6, st_l8, st_ls8, st_y2, st_y3, st_y4, st_y8, st_o100_0, st_o100_1, st_o100_2, st_o100_3, st_o100_4, st_o100_5, st_o100_6, st_o100_7, st_q100_7, st_o100_8, st_q100_8, st_w100, st_o110_0, st_o110_1, st_w110, st_o129_0, st_o129_1, st_q129_1, st_o129_2, st_q129_2, st_w129, st_o205_0, st_o205_1, st_q205_1, st_o205_2, st_o205_3, st_q205_3, st_o205_4, st_q205_4, st_o205_5, st_q205_5, st_o205_6, st_q205_6, st_o205_7, st_q205_7, st_o205_8, st_q205_8, st_o205_9, st_q205_9, st_w205, st_o235_0, st_o235_1, st_o235_2, st_o235_3, st_o235_4, st_o235_5, st_o235_6, st_o235_7, st_q235_7, st_o235_8, st_q235_8, st_o235_9, st_o235_10, st_q235_10, st_o235_11, st_q235_11, st_o235_12, st_q235_12, st_o235_13, st_q235_13, st_o235_14, st_q235_14, st_o235_15, st_q235_15, st_o235_16, st_q235_16, st_o235_17, st_q235_17, st_o235_18, st_q235_18, st_o235_19, st_o235_20, st_o235_21, st_q235_21, st_o235_22, st_q235_22, st_o235_23, st_o235_24, st_q235_24, st_w235, st_a204, st_as204, st_a206, st_as206, st_a216, st_as216, st_a236, st_as236, st_a237, st_as237, st_a238, st_as238, st_a239, st_as239, st_a240, st_as240, st_a241, st_as241, st_a242, st_as242, st_a243, st_as243, st_a244, st_as244, st_a245, st_as245, st_a246, st_as246, st_r130, st_r203, nx_in, nx_clamp, nx_i2n, nx_l2n, nx_add, nx_sub, nx_pred, nx_mul, nx_lt, nx_le, nx_eq, nx_shl, nx_shr, nx_and1, nx_andm, nx_m1, nx_or, nx_dr, nx_rem, nx_kC, nx_ift, nx_iff, mw_A, hA0, e0, ↓nif_lt_t, ↓nif_lt_f, ↓nif_le_t, ↓nif_le_f, ↓nif_eq_t, ↓nif_eq_f, ↓nif_ne_t, ↓nif_ne_f, Nat.one_mul, List.cons_append, List.nil_append, List.append_nil, Option.toList, if_true, if_false, Bool.false_eq_true, and_true, true_and, and_self]
  | succ f ih =>
    intro c P H x2 hc hP
    have hcn : c < n := by omega
    have q8 := h8 c hcn
    have e2 := s131w (xs := xs) (L := L) (S := S) (t := t) (A := A) (B := B) (C := C) (P := P) (H := H) (ls := ls) (gv := gv) (c := c) (by omega)
    rw [hA c hcn] at e2
    have e3 := s132 (xs := xs) (L := L) (h := b.1 c) (p := b.2 c) (by omega) (hw c hcn) (hS (mw S A B C P H ls gv) t)
    obtain ⟨P1, a1, a2, a3⟩ := s178i (xs := xs) (L := L) (S := S) (t := t) (A := A) (B := B) (C := C) (ls := ls) (gv := gv) (c := c) (H := upN H c (b.1 c)) (by omega) q8 (hw c hcn) (hA c hcn) (upN_e _ _ _) (b.1 c) 0 P (by omega) (fun j hj => by omega)
    obtain ⟨P', H', b1, b2⟩ := ih (c + 1) P1 (upN H c (b.1 c)) (.int (nI (b.1 c))) (by omega) (fun d hd => by
      by_cases hdc : d = c
      · rw [hdc, upN_e]
        exact ⟨rfl, fun k hk => a2 k hk⟩
      · rw [upN_n hdc]
        have hd2 := h8 d (by omega)
        refine ⟨(hP d (by omega)).1, fun k hk => ?_⟩
        rw [a1 _ (by omega)]
        exact (hP d (by omega)).2 k hk)
    refine ⟨P', H', b1, ?_⟩
    rw [r178_2]
    simp (config := { decide := false, maxSteps := 1000000 }) (disch := first | assumption | exact nlg_i _ | exact nlg_r _ | exact nlg_n | omega | decide) only [r178_0, r178_1, r178_3, r178_4, r178_7, r178_8, r178_9, r178_12, r178_13, r178_16, r178_17, r178_18, r178_19, r178_22, r178_25, r178_26, r178_27, r178_29, r178_30, r178_33, r178_34, r178_35, r178_38, r178_39, r178_42, r178_44, r178_45, r178_46, r178_47, r178_48, r178_49, r178_50, r178_53, r178_54, r178_57, r178_58, r178_61, r178_64, r178_67, r178_70, st_g0_0, st_g0_1, st_g0_2, st_g0_3, st_g0_4, st_p0_4, st_g0_5, st_p0_5, st_g0_6, st_p0_6, st_g0_7, st_p0_7, st_v0, st_g1_0, st_g1_1, st_g1_2, st_g1_3, st_p1_3, st_v1, st_g7_0, st_g7_1, st_p7_1, st_g7_2, st_p7_2, st_v7, st_i2, st_is2, st_i3, st_is3, st_i4, st_is4, st_i5, st_is5, st_i6, st_is6, st_l8, st_ls8, st_y2, st_y3, st_y4, st_y8, st_o100_0, st_o100_1, st_o100_2, st_o100_3, st_o100_4, st_o100_5, st_o100_6, st_o100_7, st_q100_7, st_o100_8, st_q100_8, st_w100, st_o110_0, st_o110_1, st_w110, st_o129_0, st_o129_1, st_q129_1, st_o129_2, st_q129_2, st_w129, st_o205_0, st_o205_1, st_q205_1, st_o205_2, st_o205_3, st_q205_3, st_o205_4, st_q205_4, st_o205_5, st_q205_5, st_o205_6, st_q205_6, st_o205_7, st_q205_7, st_o205_8, st_q205_8, st_o205_9, st_q205_9, st_w205, st_o235_0, st_o235_1, st_o235_2, st_o235_3, st_o235_4, st_o235_5, st_o235_6, st_o235_7, st_q235_7, st_o235_8, st_q235_8, st_o235_9, st_o235_10, st_q235_10, st_o235_11, st_q235_11, st_o235_12, st_q235_12, st_o235_13, st_q235_13, st_o235_14, st_q235_14, st_o235_15, st_q235_15, st_o235_16, st_q235_16, st_o235_17, st_q235_17, st_o235_18, st_q235_18, st_o235_19, st_o235_20, st_o235_21, st_q235_21, st_o235_22, st_q235_22, st_o235_23, st_o235_24, st_q235_24, st_w235, st_a204, st_as204, st_a206, st_as206, st_a216, st_as216, st_a236, st_as236, st_a237, st_as237, st_a238, st_as238, st_a239, st_as239, st_a240, st_as240, st_a241, st_as241, st_a242, st_as242, st_a243, st_as243, st_a244, st_as244, st_a245, st_as245, st_a246, st_as246, st_r130, st_r203, nx_in, nx_clamp, nx_i2n, nx_l2n, nx_add, nx_sub, nx_pred, nx_mul, nx_lt, nx_le, nx_eq, nx_shl, nx_shr, nx_and1, nx_andm, nx_m1, nx_or, nx_dr, nx_rem, nx_kC, nx_ift, nx_iff, mw_A, mw_H, mw_sH, hA0, e2, e3, a3, b2, ↓nif_lt_t, ↓nif_lt_f, ↓nif_le_t, ↓nif_le_f, ↓nif_eq_t, ↓nif_eq_f, ↓nif_ne_t, ↓nif_ne_f, Nat.one_mul, List.cons_append, List.nil_append, List.append_nil, Option.toList, if_true, if_false, Bool.false_eq_true, and_true, true_and, and_self]
theorem s178 {b : xB} (hn : n ≤ 12) (h8 : ∀ c, c < n → b.1 c ≤ 8) (hw : bwf n b) (hA0 : A 0 = n) (hA : ∀ c, c < n → A (21 + c) = stn (b.1 c) (b.2 c)) : ∃ P' H', prl n b P' H' ∧ ev xs L 178 0 [.ref 235, .null, .null] [] (hS (mw S A B C P H ls gv) t) = some (.inl none, hS (mw S A B C P' H' ls gv) t) := by
  obtain ⟨P', H', a1, a2⟩ := s178h (xs := xs) (L := L) (S := S) (t := t) (A := A) (B := B) (C := C) (ls := ls) (gv := gv) hn h8 hw hA0 hA n 0 P H .null rfl (fun d hd => by omega)
  refine ⟨P', H', a1, ?_⟩
  simp (config := { decide := false, maxSteps := 1000000 }) (disch := first | assumption | exact nlg_i _ | exact nlg_r _ | exact nlg_n | omega | decide) only [r178_0, r178_1, r178_3, r178_4, r178_7, r178_8, r178_9, r178_12, r178_13, r178_16, r178_17, r178_18, r178_19, r178_22, r178_25, r178_26, r178_27, r178_28, r178_29, r178_30, r178_33, r178_34, r178_35, r178_38, r178_39, r178_42, r178_44, r178_45, r178_46, r178_47, r178_48, r178_49, r178_50, r178_53, r178_54, r178_57, r178_58, r178_61, r178_64, r178_67, r178_70, st_g0_0, st_g0_1, st_g0_2, st_g0_3, st_g0_4, st_p0_4, st_g0_5, st_p0_5, st_g0_6, st_p0_6, st_g0_7, st_p0_7, st_v0, st_g1_0, st_g1_1, st_g1_2, st_g1_3, st_p1_3, st_v1, st_g7_0, st_g7_1, st_p7_1, st_g7_2, st_p7_2, st_v7, st_i2, st_is2, st_i3, st_is3, st_i4, st_is4, st_i5, st_is5, st_i6, st_is6, st_l8, st_ls8, st_y2, st_y3, st_y4, st_y8, st_o100_0, st_o100_1, st_o100_2, st_o100_3, st_o100_4, st_o100_5, st_o100_6, st_o100_7, st_q100_7, st_o100_8, st_q100_8, st_w100, st_o110_0, st_o110_1, st_w110, st_o129_0, st_o129_1, st_q129_1, st_o129_2, st_q129_2, st_w129, st_o205_0, st_o205_1, st_q205_1, st_o205_2, st_o205_3, st_q205_3, st_o205_4, st_q205_4, st_o205_5, st_q205_5, st_o205_6, st_q205_6, st_o205_7, st_q205_7, st_o205_8, st_q205_8, st_o205_9, st_q205_9, st_w205, st_o235_0, st_o235_1, st_o235_2, st_o235_3, st_o235_4, st_o235_5, st_o235_6, st_o235_7, st_q235_7, st_o235_8, st_q235_8, st_o235_9, st_o235_10, st_q235_10, st_o235_11, st_q235_11, st_o235_12, st_q235_12, st_o235_13, st_q235_13, st_o235_14, st_q235_14, st_o235_15, st_q235_15, st_o235_16, st_q235_16, st_o235_17, st_q235_17, st_o235_18, st_q235_18, st_o235_19, st_o235_20, st_o235_21, st_q235_21, st_o235_22, st_q235_22, st_o235_23, st_o235_24, st_q235_24, st_w235, st_a204, st_as204, st_a206, st_as206, st_a216, st_as216, st_a236, st_as236, st_a237, st_as237, st_a238, st_as238, st_a239, st_as239, st_a240, st_as240, st_a241, st_as241, st_a242, st_as242, st_a243, st_as243, st_a244, st_as244, st_a245, st_as245, st_a246, st_as246, st_r130, st_r203, nx_in, nx_clamp, nx_i2n, nx_l2n, nx_add, nx_sub, nx_pred, nx_mul, nx_lt, nx_le, nx_eq, nx_shl, nx_shr, nx_and1, nx_andm, nx_m1, nx_or, nx_dr, nx_rem, nx_kC, nx_ift, nx_iff, a2, ↓nif_lt_t, ↓nif_lt_f, ↓nif_le_t, ↓nif_le_f, ↓nif_eq_t, ↓nif_eq_f, ↓nif_ne_t, ↓nif_ne_f, Nat.one_mul, List.cons_append, List.nil_append, List.append_nil, Option.toList, if_true, if_false, Bool.false_eq_true, and_true, true_and, and_self]
end XMW
