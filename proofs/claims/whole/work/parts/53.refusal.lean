section XRU
variable {xs : Nat → Int32} {L : Nat} {S : xS} {t : Nat × Nat × Nat} {r q r0 : xG} {m g b c n code i : Nat}
/-- why a move is refused -/
def refuse (r : xG) (k : Nat → Nat) (code : Nat) : Nat := if rule r code ≠ 0 then rule r code else if ctn k (ky (mvR r code) 0) (ky (mvR r code) 1) (ky (mvR r code) 2) (r 7 1) 0 = 1 then 5 else 0
theorem ctn_2 (k : Nat → Nat) (k0 k1 k2 : Nat) : ∀ f j, ctn k k0 k1 k2 f j = 0 ∨ ctn k k0 k1 k2 f j = 1 := by
  intro f
  induction f with
  | zero => intro j; exact Or.inl rfl
  | succ f ih =>
    intro j
    unfold ctn
    split
    · exact Or.inr rfl
    · exact ih (j + 1)
theorem rule_le : rule r code ≤ 4 := by
  have h1 : ∀ c, rdrop r c ≤ 4 := by
    intro c
    unfold rdrop
    split
    · omega
    · split
      · omega
      · split <;> omega
  have h2 := h1 (code - 3000)
  unfold rule
  split
  · omega
  · split
    · exact h2
    · split
      · split
        · omega
        · split <;> omega
      · split
        · omega
        · split <;> omega
theorem refuse_le (k : Nat → Nat) : refuse r k code ≤ 5 := by
  have := rule_le (r := r) (code := code)
  unfold refuse
  split
  · omega
  · split <;> omega
theorem refuse_rule {k : Nat → Nat} (h : refuse r k code = 0) : rule r code = 0 := by
  unfold refuse at h
  split at h
  · next z => exact absurd h z
  · next z => exact Classical.byContradiction fun z2 => z z2
theorem refuse_cB {k : Nat → Nat} (h : r0 7 1 = r 7 1) : refuse (cB r r0) k code = refuse r k code := by
  unfold refuse
  rw [rule_cB, mv_cB, ky_cB, ky_cB, ky_cB, show cB r r0 7 1 = r0 7 1 from rfl, h]
theorem s76 (hg : isG g = true) (hb : isG b = true) (hbg : b ≠ g) (hm : m < 2 ^ 19) (h : gd m (S.1 g)) (hj : jk (S.1 b)) (hk : ∀ i, i < 60 → S.2.1 g i < 2 ^ 64) (hc : isC (S.1 g 1 3) code) : ∃ r', jk r' ∧ (refuse (S.1 g) (S.2.1 g) code = 0 → r' = cB (mvR (S.1 g) code) (S.1 b)) ∧ ev xs L 76 0 [.ref 110, .ref g, .int (nI code), .ref b, .null] [] (hS S t) = some (.inl (some (.int (nI (refuse (S.1 g) (S.2.1 g) code)))), hS (pg S b r') t) := by
  have hgb : g ≠ b := fun z => hbg z.symm
  have hgk := h.1
  have hp := h.2.2.2.1
  have e1 := s7 (xs := xs) (L := L) (S := S) (t := t) (k := S.2.1 g) hg hgk (by omega) (by omega) hc
  rw [pk_self] at e1
  have hle := rule_le (r := S.1 g) (code := code)
  by_cases h1 : rule (S.1 g) code = 0
  · have hrb : rng (S.1 g) := gd_rng h (by omega)
    have e2 := s10 (xs := xs) (L := L) (S := S) (t := t) (g := b) (q := g) hb hg hgb hj.1 h.2.2.1 hrb
    have hgc := gd_cB h hj
    have e3 := s11 (xs := xs) (L := L) (S := S) (t := t) (g := b) (r := cB (S.1 g) (S.1 b)) (code := code) hb (by omega) hgc hc h1
    rw [mv_cB] at e3
    have hgm := mv_gd h hc h1
    have hgm2 := gd_cB hgm.1 hj
    have e4 := s40 (xs := xs) (L := L) (S := pg S b (cB (mvR (S.1 g) code) (S.1 b))) (t := t) (g := g) (q := b) hg hb (by rw [pg_n _ hgb]; exact hgk.2.2.2.2.2.1.1) (by rw [pg_e]; exact hgm2.1) hk (by rw [pg_e]; exact fun p hp => ky_64 hgm2.1 hp)
    rw [pg_e, pg_n _ hgb, pg_K, ky_cB, ky_cB, ky_cB] at e4
    have hr : refuse (S.1 g) (S.2.1 g) code = if ctn (S.2.1 g) (ky (mvR (S.1 g) code) 0) (ky (mvR (S.1 g) code) 1) (ky (mvR (S.1 g) code) 2) (S.1 g 7 1) 0 = 1 then 5 else 0 := by
      unfold refuse
      rw [if_neg (fun z => z h1)]
    refine ⟨cB (mvR (S.1 g) code) (S.1 b), gd_jk hgm2, fun _ => rfl, ?_⟩
    rw [hr]
    rcases ctn_2 (S.2.1 g) (ky (mvR (S.1 g) code) 0) (ky (mvR (S.1 g) code) 1) (ky (mvR (S.1 g) code) 2) (S.1 g 7 1) 0 with z | z
    · rw [z] at e4 ⊢
      simp (config := { decide := false, maxSteps := 1000000 }) (disch := first | assumption | exact nlg_i _ | exact nlg_r _ | exact nlg_n | omega | decide) only [r76_0, r76_1, r76_2, r76_5, r76_7, r76_9, r76_12, r76_14, r76_15, r76_16, r76_17, r76_20, r76_21, r76_22, r76_25, r76_26, r76_27, r76_30, r76_31, r76_34, r76_37, r76_38, r76_41, r76_42, st_g0_0, st_g0_1, st_g0_2, st_g0_3, st_g0_4, st_p0_4, st_g0_5, st_p0_5, st_g0_6, st_p0_6, st_g0_7, st_p0_7, st_v0, st_g1_0, st_g1_1, st_g1_2, st_g1_3, st_p1_3, st_v1, st_g7_0, st_g7_1, st_p7_1, st_g7_2, st_p7_2, st_v7, st_i2, st_is2, st_i3, st_is3, st_i4, st_is4, st_i5, st_is5, st_i6, st_is6, st_l8, st_ls8, st_y2, st_y3, st_y4, st_y8, st_o100_0, st_o100_1, st_o100_2, st_o100_3, st_o100_4, st_o100_5, st_o100_6, st_o100_7, st_q100_7, st_o100_8, st_q100_8, st_w100, st_o110_0, st_o110_1, st_w110, st_o129_0, st_o129_1, st_q129_1, st_o129_2, st_q129_2, st_w129, st_o205_0, st_o205_1, st_q205_1, st_o205_2, st_o205_3, st_q205_3, st_o205_4, st_q205_4, st_o205_5, st_q205_5, st_o205_6, st_q205_6, st_o205_7, st_q205_7, st_o205_8, st_q205_8, st_o205_9, st_q205_9, st_w205, st_o235_0, st_o235_1, st_o235_2, st_o235_3, st_o235_4, st_o235_5, st_o235_6, st_o235_7, st_q235_7, st_o235_8, st_q235_8, st_o235_9, st_o235_10, st_q235_10, st_o235_11, st_q235_11, st_o235_12, st_q235_12, st_o235_13, st_q235_13, st_o235_14, st_q235_14, st_o235_15, st_q235_15, st_o235_16, st_q235_16, st_o235_17, st_q235_17, st_o235_18, st_q235_18, st_o235_19, st_o235_20, st_o235_21, st_q235_21, st_o235_22, st_q235_22, st_o235_23, st_o235_24, st_q235_24, st_w235, st_a204, st_as204, st_a206, st_as206, st_a216, st_as216, st_a236, st_as236, st_a237, st_as237, st_a238, st_as238, st_a239, st_as239, st_a240, st_as240, st_a241, st_as241, st_a242, st_as242, st_a243, st_as243, st_a244, st_as244, st_a245, st_as245, st_a246, st_as246, st_r130, st_r203, nx_in, nx_clamp, nx_i2n, nx_l2n, nx_add, nx_sub, nx_pred, nx_mul, nx_lt, nx_le, nx_eq, nx_shl, nx_shr, nx_and1, nx_andm, nx_m1, nx_or, nx_dr, nx_rem, nx_kC, nx_ift, nx_iff, e1, e2, e3, e4, h1, ↓nif_lt_t, ↓nif_lt_f, ↓nif_le_t, ↓nif_le_f, ↓nif_eq_t, ↓nif_eq_f, ↓nif_ne_t, ↓nif_ne_f, Nat.one_mul, List.cons_append, List.nil_append, List.append_nil, Option.toList, if_true, if_false, Bool.false_eq_true, and_true, true_and, and_self]
    · rw [z] at e4 ⊢
      simp (config := { decide := false, maxSteps := 1000000 }) (disch := first | assumption | exact nlg_i _ | exact nlg_r _ | exact nlg_n | omega | decide) only [r76_0, r76_1, r76_2, r76_5, r76_7, r76_9, r76_12, r76_14, r76_15, r76_16, r76_17, r76_20, r76_21, r76_22, r76_25, r76_26, r76_27, r76_30, r76_31, r76_34, r76_37, r76_38, r76_41, r76_42, st_g0_0, st_g0_1, st_g0_2, st_g0_3, st_g0_4, st_p0_4, st_g0_5, st_p0_5, st_g0_6, st_p0_6, st_g0_7, st_p0_7, st_v0, st_g1_0, st_g1_1, st_g1_2, st_g1_3, st_p1_3, st_v1, st_g7_0, st_g7_1, st_p7_1, st_g7_2, st_p7_2, st_v7, st_i2, st_is2, st_i3, st_is3, st_i4, st_is4, st_i5, st_is5, st_i6, st_is6, st_l8, st_ls8, st_y2, st_y3, st_y4, st_y8, st_o100_0, st_o100_1, st_o100_2, st_o100_3, st_o100_4, st_o100_5, st_o100_6, st_o100_7, st_q100_7, st_o100_8, st_q100_8, st_w100, st_o110_0, st_o110_1, st_w110, st_o129_0, st_o129_1, st_q129_1, st_o129_2, st_q129_2, st_w129, st_o205_0, st_o205_1, st_q205_1, st_o205_2, st_o205_3, st_q205_3, st_o205_4, st_q205_4, st_o205_5, st_q205_5, st_o205_6, st_q205_6, st_o205_7, st_q205_7, st_o205_8, st_q205_8, st_o205_9, st_q205_9, st_w205, st_o235_0, st_o235_1, st_o235_2, st_o235_3, st_o235_4, st_o235_5, st_o235_6, st_o235_7, st_q235_7, st_o235_8, st_q235_8, st_o235_9, st_o235_10, st_q235_10, st_o235_11, st_q235_11, st_o235_12, st_q235_12, st_o235_13, st_q235_13, st_o235_14, st_q235_14, st_o235_15, st_q235_15, st_o235_16, st_q235_16, st_o235_17, st_q235_17, st_o235_18, st_q235_18, st_o235_19, st_o235_20, st_o235_21, st_q235_21, st_o235_22, st_q235_22, st_o235_23, st_o235_24, st_q235_24, st_w235, st_a204, st_as204, st_a206, st_as206, st_a216, st_as216, st_a236, st_as236, st_a237, st_as237, st_a238, st_as238, st_a239, st_as239, st_a240, st_as240, st_a241, st_as241, st_a242, st_as242, st_a243, st_as243, st_a244, st_as244, st_a245, st_as245, st_a246, st_as246, st_r130, st_r203, nx_in, nx_clamp, nx_i2n, nx_l2n, nx_add, nx_sub, nx_pred, nx_mul, nx_lt, nx_le, nx_eq, nx_shl, nx_shr, nx_and1, nx_andm, nx_m1, nx_or, nx_dr, nx_rem, nx_kC, nx_ift, nx_iff, e1, e2, e3, e4, h1, ↓nif_lt_t, ↓nif_lt_f, ↓nif_le_t, ↓nif_le_f, ↓nif_eq_t, ↓nif_eq_f, ↓nif_ne_t, ↓nif_ne_f, Nat.one_mul, List.cons_append, List.nil_append, List.append_nil, Option.toList, if_true, if_false, Bool.false_eq_true, and_true, true_and, and_self]
  · refine ⟨S.1 b, hj, fun z => absurd (refuse_rule z) h1, ?_⟩
    have hr : refuse (S.1 g) (S.2.1 g) code = rule (S.1 g) code := by
      unfold refuse
      rw [if_pos h1]
    rw [hr, pg_self]
    simp (config := { decide := false, maxSteps := 1000000 }) (disch := first | assumption | exact nlg_i _ | exact nlg_r _ | exact nlg_n | omega | decide) only [r76_0, r76_1, r76_2, r76_5, r76_7, r76_9, r76_12, r76_14, r76_15, r76_16, r76_17, r76_20, r76_21, r76_22, r76_25, r76_26, r76_27, r76_30, r76_31, r76_34, r76_37, r76_38, r76_41, r76_42, st_g0_0, st_g0_1, st_g0_2, st_g0_3, st_g0_4, st_p0_4, st_g0_5, st_p0_5, st_g0_6, st_p0_6, st_g0_7, st_p0_7, st_v0, st_g1_0, st_g1_1, st_g1_2, st_g1_3, st_p1_3, st_v1, st_g7_0, st_g7_1, st_p7_1, st_g7_2, st_p7_2, st_v7, st_i2, st_is2, st_i3, st_is3, st_i4, st_is4, st_i5, st_is5, st_i6, st_is6, st_l8, st_ls8, st_y2, st_y3, st_y4, st_y8, st_o100_0, st_o100_1, st_o100_2, st_o100_3, st_o100_4, st_o100_5, st_o100_6, st_o100_7, st_q100_7, st_o100_8, st_q100_8, st_w100, st_o110_0, st_o110_1, st_w110, st_o129_0, st_o129_1, st_q129_1, st_o129_2, st_q129_2, st_w129, st_o205_0, st_o205_1, st_q205_1, st_o205_2, st_o205_3, st_q205_3, st_o205_4, st_q205_4, st_o205_5, st_q205_5, st_o205_6, st_q205_6, st_o205_7, st_q205_7, st_o205_8, st_q205_8, st_o205_9, st_q205_9, st_w205, st_o235_0, st_o235_1, st_o235_2, st_o235_3, st_o235_4, st_o235_5, st_o235_6, st_o235_7, st_q235_7, st_o235_8, st_q235_8, st_o235_9, st_o235_10, st_q235_10, st_o235_11, st_q235_11, st_o235_12, st_q235_12, st_o235_13, st_q235_13, st_o235_14, st_q235_14, st_o235_15, st_q235_15, st_o235_16, st_q235_16, st_o235_17, st_q235_17, st_o235_18, st_q235_18, st_o235_19, st_o235_20, st_o235_21, st_q235_21, st_o235_22, st_q235_22, st_o235_23, st_o235_24, st_q235_24, st_w235, st_a204, st_as204, st_a206, st_as206, st_a216, st_as216, st_a236, st_as236, st_a237, st_as237, st_a238, st_as238, st_a239, st_as239, st_a240, st_as240, st_a241, st_as241, st_a242, st_as242, st_a243, st_as243, st_a244, st_as244, st_a245, st_as245, st_a246, st_as246, st_r130, st_r203, nx_in, nx_clamp, nx_i2n, nx_l2n, nx_add, nx_sub, nx_pred, nx_mul, nx_lt, nx_le, nx_eq, nx_shl, nx_shr, nx_and1, nx_andm, nx_m1, nx_or, nx_dr, nx_rem, nx_kC, nx_ift, nx_iff, e1, h1, ↓nif_lt_t, ↓nif_lt_f, ↓nif_le_t, ↓nif_le_f, ↓nif_eq_t, ↓nif_eq_f, ↓nif_ne_t, ↓nif_ne_f, Nat.one_mul, List.cons_append, List.nil_append, List.append_nil, Option.toList, if_true, if_false, Bool.false_eq_true, and_true, true_and, and_self]
/-- refusal over a state whose try-board has changed already -/
theorem s76p (hg : isG g = true) (hb : isG b = true) (hbg : b ≠ g) (hm : m < 2 ^ 19) (h : gd m (S.1 g)) {rb : xG} (hj : jk rb) (hk : ∀ i, i < 60 → S.2.1 g i < 2 ^ 64) (hc : isC (S.1 g 1 3) code) : ∃ r', jk r' ∧ (refuse (S.1 g) (S.2.1 g) code = 0 → r' = cB (mvR (S.1 g) code) rb) ∧ ev xs L 76 0 [.ref 110, .ref g, .int (nI code), .ref b, .null] [] (hS (pg S b rb) t) = some (.inl (some (.int (nI (refuse (S.1 g) (S.2.1 g) code)))), hS (pg S b r') t) := by
  have hgb : g ≠ b := fun z => hbg z.symm
  obtain ⟨r', a1, a2, a3⟩ := s76 (xs := xs) (L := L) (S := pg S b rb) (t := t) (g := g) (b := b) (code := code) hg hb hbg hm (by rw [pg_n _ hgb]; exact h) (by rw [pg_e]; exact hj) hk (by rw [pg_n _ hgb]; exact hc)
  rw [pg_n _ hgb, pg_K, pg_pg] at a3
  rw [pg_n _ hgb, pg_K, pg_e] at a2
  exact ⟨r', a1, a2, a3⟩
theorem cda_C (hn : n ≤ 12) (h4 : 4 < n) (hi : i < 10 * n) : isC n (cda i n) := by
  unfold cda isC
  split
  · omega
  · split <;> omega
theorem cda_lt (hn : n ≤ 12) (hi : i < 10 * n) : cda i n < 4000 := by
  unfold cda
  split
  · omega
  · split <;> omega
def one (P : Prop) [Decidable P] : Nat := if P then 1 else 0
/-- how many of the first moves are not refused -/
def opn (r : xG) (k : Nat → Nat) (i : Nat) : Nat := sumTo (fun j => one (refuse r k (cda j (r 1 3)) = 0)) i
theorem s75h (hg : isG g = true) (hb : isG b = true) (hbg : b ≠ g) (hm : m < 2 ^ 19) (h : gd m (S.1 g)) (hk : ∀ i, i < 60 → S.2.1 g i < 2 ^ 64) : ∀ f i rb, f + i = 10 * S.1 g 1 3 → jk rb → ∃ r', jk r' ∧ ev xs L 75 5 [.ref 110, .ref g, .ref b, .int (nI (opn (S.1 g) (S.2.1 g) i)), .int (nI i)] [] (hS (pg S b rb) t) = some (.inl (some (.int (nI (opn (S.1 g) (S.2.1 g) (10 * S.1 g 1 3))))), hS (pg S b r') t) := by
  have hgb : g ≠ b := fun z => hbg z.symm
  have hn := h.1.1
  have e5 := pg_n (S := S) (g := b) (g' := g)
  intro f
  induction f with
  | zero =>
    intro i rb hi hj
    have e0 : i = 10 * S.1 g 1 3 := by omega
    have e2 := s86 (xs := xs) (L := L) (n := S.1 g 1 3)
    refine ⟨rb, hj, ?_⟩
    rw [r75_5]
    rw [← e0]
    simp (config := { decide := false, maxSteps := 1000000 }) (disch := first | assumption | exact nlg_i _ | exact nlg_r _ | exact nlg_n | omega | decide) only [r75_0, r75_1, r75_2, r75_3, r75_7, r75_8, r75_11, r75_14, r75_17, r75_20, r75_21, r75_22, r75_24, r75_25, r75_28, r75_31, r75_34, r75_35, r75_38, r75_41, r75_44, r75_47, r75_50, r75_51, st_g0_0, st_g0_1, st_g0_2, st_g0_3, st_g0_4, st_p0_4, st_g0_5, st_p0_5, st_g0_6, st_p0_6, st_g0_7, st_p0_7, st_v0, st_g1_0, st_g1_1, st_g1_2, st_g1_3, st_p1_3, st_v1, st_g7_0, st_g7_1, st_p7_1, st_g7_2, st_p7_2, st_v7, st_i2, st_is2, st_i3, st_is3, st_i4, st_is4, st_i5, st_is5, st_i6, st_is6, st_l8, st_ls8, st_y2, st_y3, st_y4, st_y8, st_o100_0, st_o100_1, st_o100_2, st_o100_3, st_o100_4, st_o100_5, st_o100_6, st_o100_7, st_q100_7, st_o100_8, st_q100_8, st_w100, st_o110_0, st_o110_1, st_w110, st_o129_0, st_o129_1, st_q129_1, st_o129_2, st_q129_2, st_w129, st_o205_0, st_o205_1, st_q205_1, st_o205_2, st_o205_3, st_q205_3, st_o205_4, st_q205_4, st_o205_5, st_q205_5, st_o205_6, st_q205_6, st_o205_7, st_q205_7, st_o205_8, st_q205_8, st_o205_9, st_q205_9, st_w205, st_o235_0, st_o235_1, st_o235_2, st_o235_3, st_o235_4, st_o235_5, st_o235_6, st_o235_7, st_q235_7, st_o235_8, st_q235_8, st_o235_9, st_o235_10, st_q235_10, st_o235_11, st_q235_11, st_o235_12, st_q235_12, st_o235_13, st_q235_13, st_o235_14, st_q235_14, st_o235_15, st_q235_15, st_o235_16, st_q235_16, st_o235_17, st_q235_17, st_o235_18, st_q235_18, st_o235_19, st_o235_20, st_o235_21, st_q235_21, st_o235_22, st_q235_22, st_o235_23, st_o235_24, st_q235_24, st_w235, st_a204, st_as204, st_a206, st_as206, st_a216, st_as216, st_a236, st_as236, st_a237, st_as237, st_a238, st_as238, st_a239, st_as239, st_a240, st_as240, st_a241, st_as241, st_a242, st_as242, st_a243, st_as243, st_a244, st_as244, st_a245, st_as245, st_a246, st_as246, st_r130, st_r203, nx_in, nx_clamp, nx_i2n, nx_l2n, nx_add, nx_sub, nx_pred, nx_mul, nx_lt, nx_le, nx_eq, nx_shl, nx_shr, nx_and1, nx_andm, nx_m1, nx_or, nx_dr, nx_rem, nx_kC, nx_ift, nx_iff, pg_n, e2, ← e0, ↓nif_lt_t, ↓nif_lt_f, ↓nif_le_t, ↓nif_le_f, ↓nif_eq_t, ↓nif_eq_f, ↓nif_ne_t, ↓nif_ne_f, Nat.one_mul, List.cons_append, List.nil_append, List.append_nil, Option.toList, if_true, if_false, Bool.false_eq_true, and_true, true_and, and_self]
  | succ f ih =>
    intro i rb hi hj
    have hi2 : i < 10 * S.1 g 1 3 := by omega
    have e2 := s86 (xs := xs) (L := L) (n := S.1 g 1 3)
    have e3 := s87 (xs := xs) (L := L) hn.2 hi2
    obtain ⟨r1, a1, -, a3⟩ := s76p (xs := xs) (L := L) (t := t) hg hb hbg hm h hj hk (cda_C hn.2 hn.1 hi2)
    obtain ⟨r2, b1, b2⟩ := ih (i + 1) r1 (by omega) a1
    refine ⟨r2, b1, ?_⟩
    have hle := refuse_le (r := S.1 g) (code := cda i (S.1 g 1 3)) (S.2.1 g)
    rw [show opn (S.1 g) (S.2.1 g) (i + 1) = opn (S.1 g) (S.2.1 g) i + one (refuse (S.1 g) (S.2.1 g) (cda i (S.1 g 1 3)) = 0) from rfl] at b2
    rw [r75_5]
    by_cases h1 : refuse (S.1 g) (S.2.1 g) (cda i (S.1 g 1 3)) = 0
    · rw [show one (refuse (S.1 g) (S.2.1 g) (cda i (S.1 g 1 3)) = 0) = 1 from if_pos h1] at b2
      rw [h1] at a3
      simp (config := { decide := false, maxSteps := 1000000 }) (disch := first | assumption | exact nlg_i _ | exact nlg_r _ | exact nlg_n | omega | decide) only [r75_0, r75_1, r75_2, r75_3, r75_7, r75_8, r75_11, r75_14, r75_17, r75_20, r75_21, r75_22, r75_24, r75_25, r75_28, r75_31, r75_34, r75_35, r75_38, r75_41, r75_44, r75_47, r75_50, r75_51, st_g0_0, st_g0_1, st_g0_2, st_g0_3, st_g0_4, st_p0_4, st_g0_5, st_p0_5, st_g0_6, st_p0_6, st_g0_7, st_p0_7, st_v0, st_g1_0, st_g1_1, st_g1_2, st_g1_3, st_p1_3, st_v1, st_g7_0, st_g7_1, st_p7_1, st_g7_2, st_p7_2, st_v7, st_i2, st_is2, st_i3, st_is3, st_i4, st_is4, st_i5, st_is5, st_i6, st_is6, st_l8, st_ls8, st_y2, st_y3, st_y4, st_y8, st_o100_0, st_o100_1, st_o100_2, st_o100_3, st_o100_4, st_o100_5, st_o100_6, st_o100_7, st_q100_7, st_o100_8, st_q100_8, st_w100, st_o110_0, st_o110_1, st_w110, st_o129_0, st_o129_1, st_q129_1, st_o129_2, st_q129_2, st_w129, st_o205_0, st_o205_1, st_q205_1, st_o205_2, st_o205_3, st_q205_3, st_o205_4, st_q205_4, st_o205_5, st_q205_5, st_o205_6, st_q205_6, st_o205_7, st_q205_7, st_o205_8, st_q205_8, st_o205_9, st_q205_9, st_w205, st_o235_0, st_o235_1, st_o235_2, st_o235_3, st_o235_4, st_o235_5, st_o235_6, st_o235_7, st_q235_7, st_o235_8, st_q235_8, st_o235_9, st_o235_10, st_q235_10, st_o235_11, st_q235_11, st_o235_12, st_q235_12, st_o235_13, st_q235_13, st_o235_14, st_q235_14, st_o235_15, st_q235_15, st_o235_16, st_q235_16, st_o235_17, st_q235_17, st_o235_18, st_q235_18, st_o235_19, st_o235_20, st_o235_21, st_q235_21, st_o235_22, st_q235_22, st_o235_23, st_o235_24, st_q235_24, st_w235, st_a204, st_as204, st_a206, st_as206, st_a216, st_as216, st_a236, st_as236, st_a237, st_as237, st_a238, st_as238, st_a239, st_as239, st_a240, st_as240, st_a241, st_as241, st_a242, st_as242, st_a243, st_as243, st_a244, st_as244, st_a245, st_as245, st_a246, st_as246, st_r130, st_r203, nx_in, nx_clamp, nx_i2n, nx_l2n, nx_add, nx_sub, nx_pred, nx_mul, nx_lt, nx_le, nx_eq, nx_shl, nx_shr, nx_and1, nx_andm, nx_m1, nx_or, nx_dr, nx_rem, nx_kC, nx_ift, nx_iff, pg_n, e2, e3, a3, b2, ↓nif_lt_t, ↓nif_lt_f, ↓nif_le_t, ↓nif_le_f, ↓nif_eq_t, ↓nif_eq_f, ↓nif_ne_t, ↓nif_ne_f, Nat.one_mul, List.cons_append, List.nil_append, List.append_nil, Option.toList, if_true, if_false, Bool.false_eq_true, and_true, true_and, and_self]
    · rw [show one (refuse (S.1 g) (S.2.1 g) (cda i (S.1 g 1 3)) = 0) = 0 from if_neg h1, Nat.add_zero] at b2
      simp (config := { decide := false, maxSteps := 1000000 }) (disch := first | assumption | exact nlg_i _ | exact nlg_r _ | exact nlg_n | omega | decide) only [r75_0, r75_1, r75_2, r75_3, r75_7, r75_8, r75_11, r75_14, r75_17, r75_20, r75_21, r75_22, r75_24, r75_25, r75_28, r75_31, r75_34, r75_35, r75_38, r75_41, r75_44, r75_47, r75_50, r75_51, st_g0_0, st_g0_1, st_g0_2, st_g0_3, st_g0_4, st_p0_4, st_g0_5, st_p0_5, st_g0_6, st_p0_6, st_g0_7, st_p0_7, st_v0, st_g1_0, st_g1_1, st_g1_2, st_g1_3, st_p1_3, st_v1, st_g7_0, st_g7_1, st_p7_1, st_g7_2, st_p7_2, st_v7, st_i2, st_is2, st_i3, st_is3, st_i4, st_is4, st_i5, st_is5, st_i6, st_is6, st_l8, st_ls8, st_y2, st_y3, st_y4, st_y8, st_o100_0, st_o100_1, st_o100_2, st_o100_3, st_o100_4, st_o100_5, st_o100_6, st_o100_7, st_q100_7, st_o100_8, st_q100_8, st_w100, st_o110_0, st_o110_1, st_w110, st_o129_0, st_o129_1, st_q129_1, st_o129_2, st_q129_2, st_w129, st_o205_0, st_o205_1, st_q205_1, st_o205_2, st_o205_3, st_q205_3, st_o205_4, st_q205_4, st_o205_5, st_q205_5, st_o205_6, st_q205_6, st_o205_7, st_q205_7, st_o205_8, st_q205_8, st_o205_9, st_q205_9, st_w205, st_o235_0, st_o235_1, st_o235_2, st_o235_3, st_o235_4, st_o235_5, st_o235_6, st_o235_7, st_q235_7, st_o235_8, st_q235_8, st_o235_9, st_o235_10, st_q235_10, st_o235_11, st_q235_11, st_o235_12, st_q235_12, st_o235_13, st_q235_13, st_o235_14, st_q235_14, st_o235_15, st_q235_15, st_o235_16, st_q235_16, st_o235_17, st_q235_17, st_o235_18, st_q235_18, st_o235_19, st_o235_20, st_o235_21, st_q235_21, st_o235_22, st_q235_22, st_o235_23, st_o235_24, st_q235_24, st_w235, st_a204, st_as204, st_a206, st_as206, st_a216, st_as216, st_a236, st_as236, st_a237, st_as237, st_a238, st_as238, st_a239, st_as239, st_a240, st_as240, st_a241, st_as241, st_a242, st_as242, st_a243, st_as243, st_a244, st_as244, st_a245, st_as245, st_a246, st_as246, st_r130, st_r203, nx_in, nx_clamp, nx_i2n, nx_l2n, nx_add, nx_sub, nx_pred, nx_mul, nx_lt, nx_le, nx_eq, nx_shl, nx_shr, nx_and1, nx_andm, nx_m1, nx_or, nx_dr, nx_rem, nx_kC, nx_ift, nx_iff, pg_n, e2, e3, a3, b2, h1, ↓nif_lt_t, ↓nif_lt_f, ↓nif_le_t, ↓nif_le_f, ↓nif_eq_t, ↓nif_eq_f, ↓nif_ne_t, ↓nif_ne_f, Nat.one_mul, List.cons_append, List.nil_append, List.append_nil, Option.toList, if_true, if_false, Bool.false_eq_true, and_true, true_and, and_self]
theorem s75 (hg : isG g = true) (hb : isG b = true) (hbg : b ≠ g) (hm : m < 2 ^ 19) (h : gd m (S.1 g)) (hk : ∀ i, i < 60 → S.2.1 g i < 2 ^ 64) (hj : jk (S.1 b)) : ∃ r', jk r' ∧ ev xs L 75 0 [.ref 110, .ref g, .ref b, .null, .null] [] (hS S t) = some (.inl (some (.int (nI (opn (S.1 g) (S.2.1 g) (10 * S.1 g 1 3))))), hS (pg S b r') t) := by
  obtain ⟨r', a1, a2⟩ := s75h (xs := xs) (L := L) (t := t) hg hb hbg hm h hk (10 * S.1 g 1 3) 0 (S.1 b) rfl hj
  rw [show opn (S.1 g) (S.2.1 g) 0 = 0 from rfl, pg_self] at a2
  refine ⟨r', a1, ?_⟩
  simp (config := { decide := false, maxSteps := 1000000 }) (disch := first | assumption | exact nlg_i _ | exact nlg_r _ | exact nlg_n | omega | decide) only [r75_0, r75_1, r75_2, r75_3, r75_7, r75_8, r75_11, r75_14, r75_17, r75_20, r75_21, r75_22, r75_24, r75_25, r75_28, r75_31, r75_34, r75_35, r75_38, r75_41, r75_44, r75_47, r75_50, r75_51, st_g0_0, st_g0_1, st_g0_2, st_g0_3, st_g0_4, st_p0_4, st_g0_5, st_p0_5, st_g0_6, st_p0_6, st_g0_7, st_p0_7, st_v0, st_g1_0, st_g1_1, st_g1_2, st_g1_3, st_p1_3, st_v1, st_g7_0, st_g7_1, st_p7_1, st_g7_2, st_p7_2, st_v7, st_i2, st_is2, st_i3, st_is3, st_i4, st_is4, st_i5, st_is5, st_i6, st_is6, st_l8, st_ls8, st_y2, st_y3, st_y4, st_y8, st_o100_0, st_o100_1, st_o100_2, st_o100_3, st_o100_4, st_o100_5, st_o100_6, st_o100_7, st_q100_7, st_o100_8, st_q100_8, st_w100, st_o110_0, st_o110_1, st_w110, st_o129_0, st_o129_1, st_q129_1, st_o129_2, st_q129_2, st_w129, st_o205_0, st_o205_1, st_q205_1, st_o205_2, st_o205_3, st_q205_3, st_o205_4, st_q205_4, st_o205_5, st_q205_5, st_o205_6, st_q205_6, st_o205_7, st_q205_7, st_o205_8, st_q205_8, st_o205_9, st_q205_9, st_w205, st_o235_0, st_o235_1, st_o235_2, st_o235_3, st_o235_4, st_o235_5, st_o235_6, st_o235_7, st_q235_7, st_o235_8, st_q235_8, st_o235_9, st_o235_10, st_q235_10, st_o235_11, st_q235_11, st_o235_12, st_q235_12, st_o235_13, st_q235_13, st_o235_14, st_q235_14, st_o235_15, st_q235_15, st_o235_16, st_q235_16, st_o235_17, st_q235_17, st_o235_18, st_q235_18, st_o235_19, st_o235_20, st_o235_21, st_q235_21, st_o235_22, st_q235_22, st_o235_23, st_o235_24, st_q235_24, st_w235, st_a204, st_as204, st_a206, st_as206, st_a216, st_as216, st_a236, st_as236, st_a237, st_as237, st_a238, st_as238, st_a239, st_as239, st_a240, st_as240, st_a241, st_as241, st_a242, st_as242, st_a243, st_as243, st_a244, st_as244, st_a245, st_as245, st_a246, st_as246, st_r130, st_r203, nx_in, nx_clamp, nx_i2n, nx_l2n, nx_add, nx_sub, nx_pred, nx_mul, nx_lt, nx_le, nx_eq, nx_shl, nx_shr, nx_and1, nx_andm, nx_m1, nx_or, nx_dr, nx_rem, nx_kC, nx_ift, nx_iff, a2, ↓nif_lt_t, ↓nif_lt_f, ↓nif_le_t, ↓nif_le_f, ↓nif_eq_t, ↓nif_eq_f, ↓nif_ne_t, ↓nif_ne_f, Nat.one_mul, List.cons_append, List.nil_append, List.append_nil, Option.toList, if_true, if_false, Bool.false_eq_true, and_true, true_and, and_self]
end XRU
