section XSR
variable {xs : Nat → Int32} {L : Nat} {S : xS} {t : Nat × Nat × Nat} {r q r0 : xG} {m g b c n code i : Nat}
/-- the store with the two boards of the search replaced, and the positions of the first -/
def sb (S : xS) (r1 : xG) (k1 : Nat → Nat) (r2 : xG) : xS := pg (pk S 111 r1 k1) 120 r2
theorem sb_1 (r1 r2 : xG) (k1 : Nat → Nat) : (sb S r1 k1 r2).1 111 = r1 := rfl
theorem sb_2 (r1 r2 : xG) (k1 : Nat → Nat) : (sb S r1 k1 r2).1 120 = r2 := rfl
theorem sb_k (r1 r2 : xG) (k1 : Nat → Nat) : (sb S r1 k1 r2).2.1 111 = k1 := rfl
theorem sb_r (r1 r2 : xG) (k1 : Nat → Nat) : (sb S r1 k1 r2).2.2 = S.2.2 := rfl
theorem sb_n (r1 r2 : xG) (k1 : Nat → Nat) {g : Nat} (h1 : g ≠ 111) (h2 : g ≠ 120) : (sb S r1 k1 r2).1 g = S.1 g := by
  unfold sb
  rw [pg_n _ h2, pk_n _ _ h1]
theorem sb_kn (r1 r2 : xG) (k1 : Nat → Nat) {g : Nat} (h1 : g ≠ 111) : (sb S r1 k1 r2).2.1 g = S.2.1 g := by
  unfold sb
  rw [pg_K, pk_kn _ _ h1]
theorem sb_self : sb S (S.1 111) (S.2.1 111) (S.1 120) = S := by
  unfold sb
  rw [pk_self, pg_self]
theorem sb_p1 (r1 r2 q : xG) (k1 : Nat → Nat) : pg (sb S r1 k1 r2) 111 q = sb S q k1 r2 := by
  refine Prod.ext ?_ rfl
  funext g
  show (if g = 111 then q else if g = 120 then r2 else if g = 111 then r1 else S.1 g) = (if g = 120 then r2 else if g = 111 then q else S.1 g)
  by_cases h : g = 111
  · subst h
    rfl
  · simp only [h, if_false]
theorem sb_p2 (r1 r2 q : xG) (k1 : Nat → Nat) : pg (sb S r1 k1 r2) 120 q = sb S r1 k1 q := pg_pg _ _
theorem sb_pk (r1 r2 q : xG) (k1 k : Nat → Nat) : pk (sb S r1 k1 r2) 111 q k = sb S q k r2 := by
  refine Prod.ext ?_ (Prod.ext ?_ rfl)
  · funext g
    show (if g = 111 then q else if g = 120 then r2 else if g = 111 then r1 else S.1 g) = (if g = 120 then r2 else if g = 111 then q else S.1 g)
    by_cases h : g = 111
    · subst h
      rfl
    · simp only [h, if_false]
  · funext g
    show (if g = 111 then k else if g = 111 then k1 else S.2.1 g) = (if g = 111 then k else S.2.1 g)
    split <;> rfl
theorem sb_sb (r1 r2 q1 q2 : xG) (k1 k2 : Nat → Nat) : sb (sb S r1 k1 r2) q1 k2 q2 = sb S q1 k2 q2 := by
  unfold sb
  rw [show pk (pg (pk S 111 r1 k1) 120 r2) 111 q1 k2 = pg (pk S 111 q1 k2) 120 r2 from sb_pk r1 r2 q1 k1 k2, pg_pg]
theorem pg_sb1 (q : xG) : pg S 111 q = sb S q (S.2.1 111) (S.1 120) := by
  have := sb_p1 (S := S) (S.1 111) (S.1 120) q (S.2.1 111)
  rw [sb_self] at this
  exact this
/-- keys within their longs -/
def kok (k : Nat → Nat) : Prop := nrK k ∧ ∀ i, i < 60 → k i < 2 ^ 64
/-- the state of the class as the search needs it -/
def sok (m : Nat) (S : xS) : Prop := gd m (S.1 101) ∧ kok (S.2.1 101) ∧ jk (S.1 111) ∧ kok (S.2.1 111) ∧ jk (S.1 120)
theorem sok_sb {r1 r2 : xG} {k1 : Nat → Nat} (h : sok m S) (h1 : jk r1) (h2 : kok k1) (h3 : jk r2) : sok m (sb S r1 k1 r2) := ⟨by rw [sb_n _ _ _ (by decide) (by decide)]; exact h.1, by rw [sb_kn _ _ _ (by decide)]; exact h.2.1, h1, h2, h3⟩
theorem adR_jk {r : xG} (h : jk r) : jk (adR r) := by
  refine ⟨nrm_up2 (nrm_up2 h.1 (by decide)) (by decide), ?_, ?_⟩
  · show (if 20 < r 7 1 + 1 then 20 else r 7 1 + 1) ≤ 20
    split <;> omega
  · show (if r 7 2 + 1 < 20 then r 7 2 + 1 else 0) < 20
    split <;> omega
theorem adR_gd {r : xG} (h : gd m r) : gd m (adR r) := by
  have hj := adR_jk (gd_jk h)
  exact ⟨⟨h.1.1, h.1.2.1, h.1.2.2.1, h.1.2.2.2.1, h.1.2.2.2.2.1, hj.2, h.1.2.2.2.2.2.2⟩, h.2.1, hj.1, h.2.2.2⟩
theorem adK_ok {k : Nat → Nat} (h : kok k) (hj : jk r) (hg : gok q) : kok (adK r q k) := by
  have h7 := hj.2.2
  constructor
  · intro i hi
    unfold adK
    rw [upN_n (by omega), upN_n (by omega), upN_n (by omega)]
    exact h.1 i hi
  · intro i hi
    unfold adK upN
    split
    · exact ky_64 hg (by decide)
    · split
      · exact ky_64 hg (by decide)
      · split
        · exact ky_64 hg (by decide)
        · exact h.2 i hi
theorem cP_gd {m' : Nat} (h : gd m q) (h' : gd m' r) : gd m (cP r q) := by
  refine ⟨⟨h.1.1, h.1.2.1, h.1.2.2.1, h.1.2.2.2.1, h.1.2.2.2.2.1, h'.1.2.2.2.2.2.1, h.1.2.2.2.2.2.2⟩, h.2.1, ?_, h.2.2.2⟩
  intro a i hu
  unfold cP
  split
  · next h7 => rw [← h7]; exact h'.2.2.1 a i hu
  · exact h.2.2.1 a i hu
theorem s77 (hm : m < 2 ^ 19) (h : sok m S) (hc : isC (S.1 101 1 3) code) : ∃ r1, jk r1 ∧ (refuse (S.1 101) (S.2.1 101) code = 0 → r1 = cB (mvR (S.1 101) code) (S.1 111)) ∧ ev xs L 77 0 [.ref 110, .ref 101, .int (nI code)] [] (hS S t) = some (.inl (some (.int (nI (refuse (S.1 101) (S.2.1 101) code)))), hS (sb S r1 (S.2.1 111) (S.1 120)) t) := by
  obtain ⟨r1, a1, a2, a3⟩ := s76 (xs := xs) (L := L) (S := S) (t := t) (g := 101) (b := 111) (by decide) (by decide) (by decide) hm h.1 h.2.2.1 h.2.1.2 hc
  refine ⟨r1, a1, a2, ?_⟩
  rw [pg_sb1] at a3
  simp (config := { decide := false, maxSteps := 1000000 }) (disch := first | assumption | exact nlg_i _ | exact nlg_r _ | exact nlg_n | omega | decide) only [r77_0, r77_1, r77_2, r77_3, r77_4, r77_7, r77_10, st_g0_0, st_g0_1, st_g0_2, st_g0_3, st_g0_4, st_p0_4, st_g0_5, st_p0_5, st_g0_6, st_p0_6, st_g0_7, st_p0_7, st_v0, st_g1_0, st_g1_1, st_g1_2, st_g1_3, st_p1_3, st_v1, st_g7_0, st_g7_1, st_p7_1, st_g7_2, st_p7_2, st_v7, st_i2, st_is2, st_i3, st_is3, st_i4, st_is4, st_i5, st_is5, st_i6, st_is6, st_l8, st_ls8, st_y2, st_y3, st_y4, st_y8, st_o100_0, st_o100_1, st_o100_2, st_o100_3, st_o100_4, st_o100_5, st_o100_6, st_o100_7, st_q100_7, st_o100_8, st_q100_8, st_w100, st_o110_0, st_o110_1, st_w110, st_o129_0, st_o129_1, st_q129_1, st_o129_2, st_q129_2, st_w129, st_o205_0, st_o205_1, st_q205_1, st_o205_2, st_o205_3, st_q205_3, st_o205_4, st_q205_4, st_o205_5, st_q205_5, st_o205_6, st_q205_6, st_o205_7, st_q205_7, st_o205_8, st_q205_8, st_o205_9, st_q205_9, st_w205, st_o235_0, st_o235_1, st_o235_2, st_o235_3, st_o235_4, st_o235_5, st_o235_6, st_o235_7, st_q235_7, st_o235_8, st_q235_8, st_o235_9, st_o235_10, st_q235_10, st_o235_11, st_q235_11, st_o235_12, st_q235_12, st_o235_13, st_q235_13, st_o235_14, st_q235_14, st_o235_15, st_q235_15, st_o235_16, st_q235_16, st_o235_17, st_q235_17, st_o235_18, st_q235_18, st_o235_19, st_o235_20, st_o235_21, st_q235_21, st_o235_22, st_q235_22, st_o235_23, st_o235_24, st_q235_24, st_w235, st_a204, st_as204, st_a206, st_as206, st_a216, st_as216, st_a236, st_as236, st_a237, st_as237, st_a238, st_as238, st_a239, st_as239, st_a240, st_as240, st_a241, st_as241, st_a242, st_as242, st_a243, st_as243, st_a244, st_as244, st_a245, st_as245, st_a246, st_as246, st_r130, st_r203, nx_in, nx_clamp, nx_i2n, nx_l2n, nx_add, nx_sub, nx_pred, nx_mul, nx_lt, nx_le, nx_eq, nx_shl, nx_shr, nx_and1, nx_andm, nx_m1, nx_or, nx_dr, nx_rem, nx_kC, nx_ift, nx_iff, a3, ↓nif_lt_t, ↓nif_lt_f, ↓nif_le_t, ↓nif_le_f, ↓nif_eq_t, ↓nif_eq_f, ↓nif_ne_t, ↓nif_ne_f, Nat.one_mul, List.cons_append, List.nil_append, List.append_nil, Option.toList, if_true, if_false, Bool.false_eq_true, and_true, true_and, and_self]
theorem s74 (hm : m < 2 ^ 19) (h : sok m S) : ∃ r1, jk r1 ∧ ev xs L 74 0 [.ref 110, .ref 101] [] (hS S t) = some (.inl (some (.int (nI (opn (S.1 101) (S.2.1 101) (10 * S.1 101 1 3))))), hS (sb S r1 (S.2.1 111) (S.1 120)) t) := by
  obtain ⟨r1, a1, a3⟩ := s75 (xs := xs) (L := L) (S := S) (t := t) (g := 101) (b := 111) (by decide) (by decide) (by decide) hm h.1 h.2.1.2 h.2.2.1
  refine ⟨r1, a1, ?_⟩
  rw [pg_sb1] at a3
  simp (config := { decide := false, maxSteps := 1000000 }) (disch := first | assumption | exact nlg_i _ | exact nlg_r _ | exact nlg_n | omega | decide) only [r74_0, r74_1, r74_2, r74_3, r74_6, r74_9, st_g0_0, st_g0_1, st_g0_2, st_g0_3, st_g0_4, st_p0_4, st_g0_5, st_p0_5, st_g0_6, st_p0_6, st_g0_7, st_p0_7, st_v0, st_g1_0, st_g1_1, st_g1_2, st_g1_3, st_p1_3, st_v1, st_g7_0, st_g7_1, st_p7_1, st_g7_2, st_p7_2, st_v7, st_i2, st_is2, st_i3, st_is3, st_i4, st_is4, st_i5, st_is5, st_i6, st_is6, st_l8, st_ls8, st_y2, st_y3, st_y4, st_y8, st_o100_0, st_o100_1, st_o100_2, st_o100_3, st_o100_4, st_o100_5, st_o100_6, st_o100_7, st_q100_7, st_o100_8, st_q100_8, st_w100, st_o110_0, st_o110_1, st_w110, st_o129_0, st_o129_1, st_q129_1, st_o129_2, st_q129_2, st_w129, st_o205_0, st_o205_1, st_q205_1, st_o205_2, st_o205_3, st_q205_3, st_o205_4, st_q205_4, st_o205_5, st_q205_5, st_o205_6, st_q205_6, st_o205_7, st_q205_7, st_o205_8, st_q205_8, st_o205_9, st_q205_9, st_w205, st_o235_0, st_o235_1, st_o235_2, st_o235_3, st_o235_4, st_o235_5, st_o235_6, st_o235_7, st_q235_7, st_o235_8, st_q235_8, st_o235_9, st_o235_10, st_q235_10, st_o235_11, st_q235_11, st_o235_12, st_q235_12, st_o235_13, st_q235_13, st_o235_14, st_q235_14, st_o235_15, st_q235_15, st_o235_16, st_q235_16, st_o235_17, st_q235_17, st_o235_18, st_q235_18, st_o235_19, st_o235_20, st_o235_21, st_q235_21, st_o235_22, st_q235_22, st_o235_23, st_o235_24, st_q235_24, st_w235, st_a204, st_as204, st_a206, st_as206, st_a216, st_as216, st_a236, st_as236, st_a237, st_as237, st_a238, st_as238, st_a239, st_as239, st_a240, st_as240, st_a241, st_as241, st_a242, st_as242, st_a243, st_as243, st_a244, st_as244, st_a245, st_as245, st_a246, st_as246, st_r130, st_r203, nx_in, nx_clamp, nx_i2n, nx_l2n, nx_add, nx_sub, nx_pred, nx_mul, nx_lt, nx_le, nx_eq, nx_shl, nx_shr, nx_and1, nx_andm, nx_m1, nx_or, nx_dr, nx_rem, nx_kC, nx_ift, nx_iff, a3, ↓nif_lt_t, ↓nif_lt_f, ↓nif_le_t, ↓nif_le_f, ↓nif_eq_t, ↓nif_eq_f, ↓nif_ne_t, ↓nif_ne_f, Nat.one_mul, List.cons_append, List.nil_append, List.append_nil, Option.toList, if_true, if_false, Bool.false_eq_true, and_true, true_and, and_self]
/-- the move with a number among those that are not refused: one more than its code, or 0 -/
def mvA (r : xG) (k : Nat → Nat) (num : Nat) : Nat → Nat → Nat → Nat
  | 0, _, _ => 0
  | f + 1, i, bef => if refuse r k (cda i (r 1 3)) = 0 then (if bef = num then cda i (r 1 3) + 1 else mvA r k num f (i + 1) (bef + 1)) else mvA r k num f (i + 1) bef
theorem s78h (hm : m < 2 ^ 19) (h : sok m S) {num : Nat} (hnum : num < 2 ^ 31) : ∀ f i bef r1 x5, f + i = 10 * S.1 101 1 3 → bef ≤ i → jk r1 → xi_nlg x5 = true → ∃ r', jk r' ∧ ev xs L 78 5 [.ref 110, .ref 101, .int (nI num), .int (nI bef), .int (nI i), x5] [] (hS (sb S r1 (S.2.1 111) (S.1 120)) t) = some (.inl (some (.int (fI (mvA (S.1 101) (S.2.1 101) num f i bef)))), hS (sb S r' (S.2.1 111) (S.1 120)) t) := by
  have hn := h.1.1.1
  have e5 : ∀ r1, (sb S r1 (S.2.1 111) (S.1 120)).1 101 = S.1 101 := fun r1 => sb_n _ _ _ (by decide) (by decide)
  have hG : isG 101 = true := by decide
  intro f
  induction f with
  | zero =>
    intro i bef r1 x5 hi hbf hj hx
    have e0 : i = 10 * S.1 101 1 3 := by omega
    have e2 := s86 (xs := xs) (L := L) (n := S.1 101 1 3)
    refine ⟨r1, hj, ?_⟩
    rw [r78_5]
    unfold mvA
    simp (config := { decide := false, maxSteps := 1000000 }) (disch := first | assumption | exact nlg_i _ | exact nlg_r _ | exact nlg_n | omega | decide) only [r78_0, r78_1, r78_2, r78_3, r78_7, r78_8, r78_11, r78_14, r78_17, r78_20, r78_22, r78_23, r78_26, r78_29, r78_32, r78_34, r78_35, r78_36, r78_38, r78_39, r78_42, r78_45, r78_48, r78_49, r78_50, r78_53, r78_55, r78_56, r78_59, r78_62, r78_65, r78_66, st_g0_0, st_g0_1, st_g0_2, st_g0_3, st_g0_4, st_p0_4, st_g0_5, st_p0_5, st_g0_6, st_p0_6, st_g0_7, st_p0_7, st_v0, st_g1_0, st_g1_1, st_g1_2, st_g1_3, st_p1_3, st_v1, st_g7_0, st_g7_1, st_p7_1, st_g7_2, st_p7_2, st_v7, st_i2, st_is2, st_i3, st_is3, st_i4, st_is4, st_i5, st_is5, st_i6, st_is6, st_l8, st_ls8, st_y2, st_y3, st_y4, st_y8, st_o100_0, st_o100_1, st_o100_2, st_o100_3, st_o100_4, st_o100_5, st_o100_6, st_o100_7, st_q100_7, st_o100_8, st_q100_8, st_w100, st_o110_0, st_o110_1, st_w110, st_o129_0, st_o129_1, st_q129_1, st_o129_2, st_q129_2, st_w129, st_o205_0, st_o205_1, st_q205_1, st_o205_2, st_o205_3, st_q205_3, st_o205_4, st_q205_4, st_o205_5, st_q205_5, st_o205_6, st_q205_6, st_o205_7, st_q205_7, st_o205_8, st_q205_8, st_o205_9, st_q205_9, st_w205, st_o235_0, st_o235_1, st_o235_2, st_o235_3, st_o235_4, st_o235_5, st_o235_6, st_o235_7, st_q235_7, st_o235_8, st_q235_8, st_o235_9, st_o235_10, st_q235_10, st_o235_11, st_q235_11, st_o235_12, st_q235_12, st_o235_13, st_q235_13, st_o235_14, st_q235_14, st_o235_15, st_q235_15, st_o235_16, st_q235_16, st_o235_17, st_q235_17, st_o235_18, st_q235_18, st_o235_19, st_o235_20, st_o235_21, st_q235_21, st_o235_22, st_q235_22, st_o235_23, st_o235_24, st_q235_24, st_w235, st_a204, st_as204, st_a206, st_as206, st_a216, st_as216, st_a236, st_as236, st_a237, st_as237, st_a238, st_as238, st_a239, st_as239, st_a240, st_as240, st_a241, st_as241, st_a242, st_as242, st_a243, st_as243, st_a244, st_as244, st_a245, st_as245, st_a246, st_as246, st_r130, st_r203, nx_in, nx_clamp, nx_i2n, nx_l2n, nx_add, nx_sub, nx_pred, nx_mul, nx_lt, nx_le, nx_eq, nx_shl, nx_shr, nx_and1, nx_andm, nx_m1, nx_or, nx_dr, nx_rem, nx_kC, nx_ift, nx_iff, e5, e2, e0, fI, ↓nif_lt_t, ↓nif_lt_f, ↓nif_le_t, ↓nif_le_f, ↓nif_eq_t, ↓nif_eq_f, ↓nif_ne_t, ↓nif_ne_f, Nat.one_mul, List.cons_append, List.nil_append, List.append_nil, Option.toList, if_true, if_false, Bool.false_eq_true, and_true, true_and, and_self]
  | succ f ih =>
    intro i bef r1 x5 hi hbf hj hx
    have hi2 : i < 10 * S.1 101 1 3 := by omega
    have e2 := s86 (xs := xs) (L := L) (n := S.1 101 1 3)
    have e3 := s87 (xs := xs) (L := L) hn.2 hi2
    have hc := cda_C hn.2 hn.1 hi2
    have hlt := cda_lt hn.2 hi2
    obtain ⟨q1, a1, -, a3⟩ := s76 (xs := xs) (L := L) (S := sb S r1 (S.2.1 111) (S.1 120)) (t := t) (g := 101) (b := 111) (by decide) (by decide) (by decide) hm (by rw [e5]; exact h.1) (by rw [sb_1]; exact hj) (by rw [sb_kn _ _ _ (by decide)]; exact h.2.1.2) (by rw [e5]; exact hc)
    rw [e5, sb_kn _ _ _ (by decide), sb_p1] at a3
    have hle := refuse_le (r := S.1 101) (code := cda i (S.1 101 1 3)) (S.2.1 101)
    unfold mvA
    by_cases h1 : refuse (S.1 101) (S.2.1 101) (cda i (S.1 101 1 3)) = 0
    · rw [h1] at a3
      rw [if_pos h1]
      by_cases h2 : bef = num
      · refine ⟨q1, a1, ?_⟩
        rw [if_pos h2, r78_5]
        simp (config := { decide := false, maxSteps := 1000000 }) (disch := first | assumption | exact nlg_i _ | exact nlg_r _ | exact nlg_n | omega | decide) only [r78_0, r78_1, r78_2, r78_3, r78_7, r78_8, r78_11, r78_14, r78_17, r78_20, r78_22, r78_23, r78_26, r78_29, r78_32, r78_34, r78_35, r78_36, r78_38, r78_39, r78_42, r78_45, r78_48, r78_49, r78_50, r78_53, r78_55, r78_56, r78_59, r78_62, r78_65, r78_66, st_g0_0, st_g0_1, st_g0_2, st_g0_3, st_g0_4, st_p0_4, st_g0_5, st_p0_5, st_g0_6, st_p0_6, st_g0_7, st_p0_7, st_v0, st_g1_0, st_g1_1, st_g1_2, st_g1_3, st_p1_3, st_v1, st_g7_0, st_g7_1, st_p7_1, st_g7_2, st_p7_2, st_v7, st_i2, st_is2, st_i3, st_is3, st_i4, st_is4, st_i5, st_is5, st_i6, st_is6, st_l8, st_ls8, st_y2, st_y3, st_y4, st_y8, st_o100_0, st_o100_1, st_o100_2, st_o100_3, st_o100_4, st_o100_5, st_o100_6, st_o100_7, st_q100_7, st_o100_8, st_q100_8, st_w100, st_o110_0, st_o110_1, st_w110, st_o129_0, st_o129_1, st_q129_1, st_o129_2, st_q129_2, st_w129, st_o205_0, st_o205_1, st_q205_1, st_o205_2, st_o205_3, st_q205_3, st_o205_4, st_q205_4, st_o205_5, st_q205_5, st_o205_6, st_q205_6, st_o205_7, st_q205_7, st_o205_8, st_q205_8, st_o205_9, st_q205_9, st_w205, st_o235_0, st_o235_1, st_o235_2, st_o235_3, st_o235_4, st_o235_5, st_o235_6, st_o235_7, st_q235_7, st_o235_8, st_q235_8, st_o235_9, st_o235_10, st_q235_10, st_o235_11, st_q235_11, st_o235_12, st_q235_12, st_o235_13, st_q235_13, st_o235_14, st_q235_14, st_o235_15, st_q235_15, st_o235_16, st_q235_16, st_o235_17, st_q235_17, st_o235_18, st_q235_18, st_o235_19, st_o235_20, st_o235_21, st_q235_21, st_o235_22, st_q235_22, st_o235_23, st_o235_24, st_q235_24, st_w235, st_a204, st_as204, st_a206, st_as206, st_a216, st_as216, st_a236, st_as236, st_a237, st_as237, st_a238, st_as238, st_a239, st_as239, st_a240, st_as240, st_a241, st_as241, st_a242, st_as242, st_a243, st_as243, st_a244, st_as244, st_a245, st_as245, st_a246, st_as246, st_r130, st_r203, nx_in, nx_clamp, nx_i2n, nx_l2n, nx_add, nx_sub, nx_pred, nx_mul, nx_lt, nx_le, nx_eq, nx_shl, nx_shr, nx_and1, nx_andm, nx_m1, nx_or, nx_dr, nx_rem, nx_kC, nx_ift, nx_iff, e5, e2, e3, a3, h2, fI, ↓nif_lt_t, ↓nif_lt_f, ↓nif_le_t, ↓nif_le_f, ↓nif_eq_t, ↓nif_eq_f, ↓nif_ne_t, ↓nif_ne_f, Nat.one_mul, List.cons_append, List.nil_append, List.append_nil, Option.toList, if_true, if_false, Bool.false_eq_true, and_true, true_and, and_self]
      · obtain ⟨r2, b1, b2⟩ := ih (i + 1) (bef + 1) q1 (.int (nI (cda i (S.1 101 1 3)))) (by omega) (by omega) a1 rfl
        refine ⟨r2, b1, ?_⟩
        rw [if_neg h2, r78_5]
        simp (config := { decide := false, maxSteps := 1000000 }) (disch := first | assumption | exact nlg_i _ | exact nlg_r _ | exact nlg_n | omega | decide) only [r78_0, r78_1, r78_2, r78_3, r78_7, r78_8, r78_11, r78_14, r78_17, r78_20, r78_22, r78_23, r78_26, r78_29, r78_32, r78_34, r78_35, r78_36, r78_38, r78_39, r78_42, r78_45, r78_48, r78_49, r78_50, r78_53, r78_55, r78_56, r78_59, r78_62, r78_65, r78_66, st_g0_0, st_g0_1, st_g0_2, st_g0_3, st_g0_4, st_p0_4, st_g0_5, st_p0_5, st_g0_6, st_p0_6, st_g0_7, st_p0_7, st_v0, st_g1_0, st_g1_1, st_g1_2, st_g1_3, st_p1_3, st_v1, st_g7_0, st_g7_1, st_p7_1, st_g7_2, st_p7_2, st_v7, st_i2, st_is2, st_i3, st_is3, st_i4, st_is4, st_i5, st_is5, st_i6, st_is6, st_l8, st_ls8, st_y2, st_y3, st_y4, st_y8, st_o100_0, st_o100_1, st_o100_2, st_o100_3, st_o100_4, st_o100_5, st_o100_6, st_o100_7, st_q100_7, st_o100_8, st_q100_8, st_w100, st_o110_0, st_o110_1, st_w110, st_o129_0, st_o129_1, st_q129_1, st_o129_2, st_q129_2, st_w129, st_o205_0, st_o205_1, st_q205_1, st_o205_2, st_o205_3, st_q205_3, st_o205_4, st_q205_4, st_o205_5, st_q205_5, st_o205_6, st_q205_6, st_o205_7, st_q205_7, st_o205_8, st_q205_8, st_o205_9, st_q205_9, st_w205, st_o235_0, st_o235_1, st_o235_2, st_o235_3, st_o235_4, st_o235_5, st_o235_6, st_o235_7, st_q235_7, st_o235_8, st_q235_8, st_o235_9, st_o235_10, st_q235_10, st_o235_11, st_q235_11, st_o235_12, st_q235_12, st_o235_13, st_q235_13, st_o235_14, st_q235_14, st_o235_15, st_q235_15, st_o235_16, st_q235_16, st_o235_17, st_q235_17, st_o235_18, st_q235_18, st_o235_19, st_o235_20, st_o235_21, st_q235_21, st_o235_22, st_q235_22, st_o235_23, st_o235_24, st_q235_24, st_w235, st_a204, st_as204, st_a206, st_as206, st_a216, st_as216, st_a236, st_as236, st_a237, st_as237, st_a238, st_as238, st_a239, st_as239, st_a240, st_as240, st_a241, st_as241, st_a242, st_as242, st_a243, st_as243, st_a244, st_as244, st_a245, st_as245, st_a246, st_as246, st_r130, st_r203, nx_in, nx_clamp, nx_i2n, nx_l2n, nx_add, nx_sub, nx_pred, nx_mul, nx_lt, nx_le, nx_eq, nx_shl, nx_shr, nx_and1, nx_andm, nx_m1, nx_or, nx_dr, nx_rem, nx_kC, nx_ift, nx_iff, e5, e2, e3, a3, b2, h2, ↓nif_lt_t, ↓nif_lt_f, ↓nif_le_t, ↓nif_le_f, ↓nif_eq_t, ↓nif_eq_f, ↓nif_ne_t, ↓nif_ne_f, Nat.one_mul, List.cons_append, List.nil_append, List.append_nil, Option.toList, if_true, if_false, Bool.false_eq_true, and_true, true_and, and_self]
    · obtain ⟨r2, b1, b2⟩ := ih (i + 1) bef q1 (.int (nI (cda i (S.1 101 1 3)))) (by omega) (by omega) a1 rfl
      refine ⟨r2, b1, ?_⟩
      rw [if_neg h1, r78_5]
      simp (config := { decide := false, maxSteps := 1000000 }) (disch := first | assumption | exact nlg_i _ | exact nlg_r _ | exact nlg_n | omega | decide) only [r78_0, r78_1, r78_2, r78_3, r78_7, r78_8, r78_11, r78_14, r78_17, r78_20, r78_22, r78_23, r78_26, r78_29, r78_32, r78_34, r78_35, r78_36, r78_38, r78_39, r78_42, r78_45, r78_48, r78_49, r78_50, r78_53, r78_55, r78_56, r78_59, r78_62, r78_65, r78_66, st_g0_0, st_g0_1, st_g0_2, st_g0_3, st_g0_4, st_p0_4, st_g0_5, st_p0_5, st_g0_6, st_p0_6, st_g0_7, st_p0_7, st_v0, st_g1_0, st_g1_1, st_g1_2, st_g1_3, st_p1_3, st_v1, st_g7_0, st_g7_1, st_p7_1, st_g7_2, st_p7_2, st_v7, st_i2, st_is2, st_i3, st_is3, st_i4, st_is4, st_i5, st_is5, st_i6, st_is6, st_l8, st_ls8, st_y2, st_y3, st_y4, st_y8, st_o100_0, st_o100_1, st_o100_2, st_o100_3, st_o100_4, st_o100_5, st_o100_6, st_o100_7, st_q100_7, st_o100_8, st_q100_8, st_w100, st_o110_0, st_o110_1, st_w110, st_o129_0, st_o129_1, st_q129_1, st_o129_2, st_q129_2, st_w129, st_o205_0, st_o205_1, st_q205_1, st_o205_2, st_o205_3, st_q205_3, st_o205_4, st_q205_4, st_o205_5, st_q205_5, st_o205_6, st_q205_6, st_o205_7, st_q205_7, st_o205_8, st_q205_8, st_o205_9, st_q205_9, st_w205, st_o235_0, st_o235_1, st_o235_2, st_o235_3, st_o235_4, st_o235_5, st_o235_6, st_o235_7, st_q235_7, st_o235_8, st_q235_8, st_o235_9, st_o235_10, st_q235_10, st_o235_11, st_q235_11, st_o235_12, st_q235_12, st_o235_13, st_q235_13, st_o235_14, st_q235_14, st_o235_15, st_q235_15, st_o235_16, st_q235_16, st_o235_17, st_q235_17, st_o235_18, st_q235_18, st_o235_19, st_o235_20, st_o235_21, st_q235_21, st_o235_22, st_q235_22, st_o235_23, st_o235_24, st_q235_24, st_w235, st_a204, st_as204, st_a206, st_as206, st_a216, st_as216, st_a236, st_as236, st_a237, st_as237, st_a238, st_as238, st_a239, st_as239, st_a240, st_as240, st_a241, st_as241, st_a242, st_as242, st_a243, st_as243, st_a244, st_as244, st_a245, st_as245, st_a246, st_as246, st_r130, st_r203, nx_in, nx_clamp, nx_i2n, nx_l2n, nx_add, nx_sub, nx_pred, nx_mul, nx_lt, nx_le, nx_eq, nx_shl, nx_shr, nx_and1, nx_andm, nx_m1, nx_or, nx_dr, nx_rem, nx_kC, nx_ift, nx_iff, e5, e2, e3, a3, b2, h1, ↓nif_lt_t, ↓nif_lt_f, ↓nif_le_t, ↓nif_le_f, ↓nif_eq_t, ↓nif_eq_f, ↓nif_ne_t, ↓nif_ne_f, Nat.one_mul, List.cons_append, List.nil_append, List.append_nil, Option.toList, if_true, if_false, Bool.false_eq_true, and_true, true_and, and_self]
theorem s78 (hm : m < 2 ^ 19) (h : sok m S) {num : Nat} (hnum : num < 2 ^ 31) : ∃ r', jk r' ∧ ev xs L 78 0 [.ref 110, .ref 101, .int (nI num), .null, .null, .null] [] (hS S t) = some (.inl (some (.int (fI (mvA (S.1 101) (S.2.1 101) num (10 * S.1 101 1 3) 0 0)))), hS (sb S r' (S.2.1 111) (S.1 120)) t) := by
  obtain ⟨r', a1, a2⟩ := s78h (xs := xs) (L := L) (t := t) hm h hnum (10 * S.1 101 1 3) 0 0 (S.1 111) .null rfl (by omega) h.2.2.1 rfl
  rw [sb_self] at a2
  refine ⟨r', a1, ?_⟩
  simp (config := { decide := false, maxSteps := 1000000 }) (disch := first | assumption | exact nlg_i _ | exact nlg_r _ | exact nlg_n | omega | decide) only [r78_0, r78_1, r78_2, r78_3, r78_7, r78_8, r78_11, r78_14, r78_17, r78_20, r78_22, r78_23, r78_26, r78_29, r78_32, r78_34, r78_35, r78_36, r78_38, r78_39, r78_42, r78_45, r78_48, r78_49, r78_50, r78_53, r78_55, r78_56, r78_59, r78_62, r78_65, r78_66, st_g0_0, st_g0_1, st_g0_2, st_g0_3, st_g0_4, st_p0_4, st_g0_5, st_p0_5, st_g0_6, st_p0_6, st_g0_7, st_p0_7, st_v0, st_g1_0, st_g1_1, st_g1_2, st_g1_3, st_p1_3, st_v1, st_g7_0, st_g7_1, st_p7_1, st_g7_2, st_p7_2, st_v7, st_i2, st_is2, st_i3, st_is3, st_i4, st_is4, st_i5, st_is5, st_i6, st_is6, st_l8, st_ls8, st_y2, st_y3, st_y4, st_y8, st_o100_0, st_o100_1, st_o100_2, st_o100_3, st_o100_4, st_o100_5, st_o100_6, st_o100_7, st_q100_7, st_o100_8, st_q100_8, st_w100, st_o110_0, st_o110_1, st_w110, st_o129_0, st_o129_1, st_q129_1, st_o129_2, st_q129_2, st_w129, st_o205_0, st_o205_1, st_q205_1, st_o205_2, st_o205_3, st_q205_3, st_o205_4, st_q205_4, st_o205_5, st_q205_5, st_o205_6, st_q205_6, st_o205_7, st_q205_7, st_o205_8, st_q205_8, st_o205_9, st_q205_9, st_w205, st_o235_0, st_o235_1, st_o235_2, st_o235_3, st_o235_4, st_o235_5, st_o235_6, st_o235_7, st_q235_7, st_o235_8, st_q235_8, st_o235_9, st_o235_10, st_q235_10, st_o235_11, st_q235_11, st_o235_12, st_q235_12, st_o235_13, st_q235_13, st_o235_14, st_q235_14, st_o235_15, st_q235_15, st_o235_16, st_q235_16, st_o235_17, st_q235_17, st_o235_18, st_q235_18, st_o235_19, st_o235_20, st_o235_21, st_q235_21, st_o235_22, st_q235_22, st_o235_23, st_o235_24, st_q235_24, st_w235, st_a204, st_as204, st_a206, st_as206, st_a216, st_as216, st_a236, st_as236, st_a237, st_as237, st_a238, st_as238, st_a239, st_as239, st_a240, st_as240, st_a241, st_as241, st_a242, st_as242, st_a243, st_as243, st_a244, st_as244, st_a245, st_as245, st_a246, st_as246, st_r130, st_r203, nx_in, nx_clamp, nx_i2n, nx_l2n, nx_add, nx_sub, nx_pred, nx_mul, nx_lt, nx_le, nx_eq, nx_shl, nx_shr, nx_and1, nx_andm, nx_m1, nx_or, nx_dr, nx_rem, nx_kC, nx_ift, nx_iff, a2, ↓nif_lt_t, ↓nif_lt_f, ↓nif_le_t, ↓nif_le_f, ↓nif_eq_t, ↓nif_eq_f, ↓nif_ne_t, ↓nif_ne_f, Nat.one_mul, List.cons_append, List.nil_append, List.append_nil, Option.toList, if_true, if_false, Bool.false_eq_true, and_true, true_and, and_self]
/-- the positions behind a move -/
def psR (r q : xG) : xG := adR (cP r q)
def psK (r q : xG) (k : Nat → Nat) : Nat → Nat := adK (cP r q) (cP r q) k
theorem pg_sKG (r : xG) (k : Nat → Nat) : pg (sKG S g k) g r = pk S g r k := rfl
theorem s80 (hm : m < 2 ^ 19) (h : sok m S) (hq : gd (m + 1) (S.1 111)) : ev xs L 80 0 [.ref 110, .ref 101] [] (hS S t) = some (.inl none, hS (sb S (psR (S.1 101) (S.1 111)) (psK (S.1 101) (S.1 111) (S.2.1 101)) (S.1 120)) t) := by
  have e1 := s41 (xs := xs) (L := L) (S := S) (t := t) (g := 111) (q := 101) (by decide) (by decide) (by decide) h.2.2.1.1 h.1.2.2.1 (gd_rng h.1 (by omega)) h.2.2.2.1.1 h.2.1.1
  rw [pg_sKG] at e1
  have hq2 := cP_gd hq h.1
  have e2 := s39 (xs := xs) (L := L) (S := S) (t := t) (g := 111) (r := cP (S.1 101) (S.1 111)) (k := S.2.1 101) (by decide) hq2.1 (fun p hp => ky_64 hq2.1 hp)
  have e3 : pk S 111 (adR (cP (S.1 101) (S.1 111))) (adK (cP (S.1 101) (S.1 111)) (cP (S.1 101) (S.1 111)) (S.2.1 101)) = sb S (psR (S.1 101) (S.1 111)) (psK (S.1 101) (S.1 111) (S.2.1 101)) (S.1 120) := by
    have := sb_pk (S := S) (S.1 111) (S.1 120) (psR (S.1 101) (S.1 111)) (S.2.1 111) (psK (S.1 101) (S.1 111) (S.2.1 101))
    rw [sb_self] at this
    exact this
  rw [e3] at e2
  have hG : isG 111 = true := by decide
  have hG1 : isG 101 = true := by decide
  simp (config := { decide := false, maxSteps := 1000000 }) (disch := first | assumption | exact nlg_i _ | exact nlg_r _ | exact nlg_n | omega | decide) only [r80_0, r80_1, r80_4, r80_7, r80_8, r80_11, r80_14, r80_15, r80_18, r80_21, r80_22, r80_25, r80_28, st_g0_0, st_g0_1, st_g0_2, st_g0_3, st_g0_4, st_p0_4, st_g0_5, st_p0_5, st_g0_6, st_p0_6, st_g0_7, st_p0_7, st_v0, st_g1_0, st_g1_1, st_g1_2, st_g1_3, st_p1_3, st_v1, st_g7_0, st_g7_1, st_p7_1, st_g7_2, st_p7_2, st_v7, st_i2, st_is2, st_i3, st_is3, st_i4, st_is4, st_i5, st_is5, st_i6, st_is6, st_l8, st_ls8, st_y2, st_y3, st_y4, st_y8, st_o100_0, st_o100_1, st_o100_2, st_o100_3, st_o100_4, st_o100_5, st_o100_6, st_o100_7, st_q100_7, st_o100_8, st_q100_8, st_w100, st_o110_0, st_o110_1, st_w110, st_o129_0, st_o129_1, st_q129_1, st_o129_2, st_q129_2, st_w129, st_o205_0, st_o205_1, st_q205_1, st_o205_2, st_o205_3, st_q205_3, st_o205_4, st_q205_4, st_o205_5, st_q205_5, st_o205_6, st_q205_6, st_o205_7, st_q205_7, st_o205_8, st_q205_8, st_o205_9, st_q205_9, st_w205, st_o235_0, st_o235_1, st_o235_2, st_o235_3, st_o235_4, st_o235_5, st_o235_6, st_o235_7, st_q235_7, st_o235_8, st_q235_8, st_o235_9, st_o235_10, st_q235_10, st_o235_11, st_q235_11, st_o235_12, st_q235_12, st_o235_13, st_q235_13, st_o235_14, st_q235_14, st_o235_15, st_q235_15, st_o235_16, st_q235_16, st_o235_17, st_q235_17, st_o235_18, st_q235_18, st_o235_19, st_o235_20, st_o235_21, st_q235_21, st_o235_22, st_q235_22, st_o235_23, st_o235_24, st_q235_24, st_w235, st_a204, st_as204, st_a206, st_as206, st_a216, st_as216, st_a236, st_as236, st_a237, st_as237, st_a238, st_as238, st_a239, st_as239, st_a240, st_as240, st_a241, st_as241, st_a242, st_as242, st_a243, st_as243, st_a244, st_as244, st_a245, st_as245, st_a246, st_as246, st_r130, st_r203, nx_in, nx_clamp, nx_i2n, nx_l2n, nx_add, nx_sub, nx_pred, nx_mul, nx_lt, nx_le, nx_eq, nx_shl, nx_shr, nx_and1, nx_andm, nx_m1, nx_or, nx_dr, nx_rem, nx_kC, nx_ift, nx_iff, e1, e2, ↓nif_lt_t, ↓nif_lt_f, ↓nif_le_t, ↓nif_le_f, ↓nif_eq_t, ↓nif_eq_f, ↓nif_ne_t, ↓nif_ne_f, Nat.one_mul, List.cons_append, List.nil_append, List.append_nil, Option.toList, if_true, if_false, Bool.false_eq_true, and_true, true_and, and_self]
end XSR
