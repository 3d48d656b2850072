section XGM
variable {xs : Nat → Int32} {L : Nat} {S : xS} {t : Nat × Nat × Nat} {g c : Nat}
abbrev xG : Type := Nat → Nat → Nat
/-- the store with a game's numbers put in place of its own -/
def pg (S : xS) (g : Nat) (r : xG) : xS := (fun g' => if g' = g then r else S.1 g', S.2)
def up2 (r : xG) (a i v : Nat) : xG := fun a' i' => if a' = a ∧ i' = i then v else r a' i'
def upR (r : xG) (a : Nat) (f : Nat → Nat) : xG := fun a' => if a' = a then f else r a'
theorem pg_e (r : xG) : (pg S g r).1 g = r := if_pos rfl
theorem pg_n (r : xG) {g' : Nat} (h : g' ≠ g) : (pg S g r).1 g' = S.1 g' := if_neg h
theorem pg_self : pg S g (S.1 g) = S := by
  refine Prod.ext ?_ rfl
  funext g'
  show (if g' = g then _ else _) = _
  split
  · next h => rw [h]
  · rfl
theorem pg_pg (r r' : xG) : pg (pg S g r) g r' = pg S g r' := by
  refine Prod.ext ?_ rfl
  funext g'
  show (if g' = g then r' else if g' = g then r else S.1 g') = (if g' = g then r' else S.1 g')
  split <;> rfl
theorem pg_sF (r : xG) (a i v : Nat) : sF (pg S g r) g a i v = pg S g (up2 r a i v) := by
  refine Prod.ext ?_ rfl
  funext g' a' i'
  show (if g' = g ∧ a' = a ∧ i' = i then v else (if g' = g then r else S.1 g') a' i') = (if g' = g then up2 r a i v else S.1 g') a' i'
  by_cases h : g' = g
  · simp only [h, true_and, if_true]
    rfl
  · simp only [h, false_and, if_false]
theorem pg_sG (r : xG) (a : Nat) (f : Nat → Nat) : sG (pg S g r) g a f = pg S g (upR r a f) := by
  refine Prod.ext ?_ rfl
  funext g' a'
  show (if g' = g ∧ a' = a then f else (if g' = g then r else S.1 g') a') = (if g' = g then upR r a f else S.1 g') a'
  by_cases h : g' = g
  · simp only [h, true_and, if_true]
    rfl
  · simp only [h, false_and, if_false]
theorem pg_bd (r : xG) (h p : Nat → Nat) : bd (pg S g r) g h p = pg S g (upR (upR r 4 p) 3 h) := by
  refine Prod.ext ?_ rfl
  funext g' a'
  show (if g' = g ∧ a' = 3 then h else if g' = g ∧ a' = 4 then p else (if g' = g then r else S.1 g') a') = (if g' = g then upR (upR r 4 p) 3 h else S.1 g') a'
  by_cases h1 : g' = g
  · simp only [h1, true_and, if_true]
    rfl
  · simp only [h1, false_and, if_false]
theorem up2_e (r : xG) (a i v : Nat) : up2 r a i v a i = v := if_pos ⟨rfl, rfl⟩
theorem up2_a (r : xG) {a a' i v : Nat} (h : a' ≠ a) : up2 r a i v a' = r a' := by
  funext i'
  exact if_neg (fun z => h z.1)
theorem up2_i (r : xG) {a a' i i' v : Nat} (h : i' ≠ i) : up2 r a i v a' i' = r a' i' := if_neg (fun z => h z.2)
theorem upR_e (r : xG) (a : Nat) (f : Nat → Nat) : upR r a f a = f := if_pos rfl
theorem upR_n (r : xG) {a a' : Nat} (f : Nat → Nat) (h : a' ≠ a) : upR r a f a' = r a' := if_neg h
/-- nothing stands where nothing is read -/
def used (a i : Nat) : Bool := (a == 0 && decide (4 ≤ i ∧ i < 8)) || (a == 1 && i == 3) || (decide (2 ≤ a ∧ a ≤ 4) && decide (i < 12)) || (decide (5 ≤ a ∧ a ≤ 6) && decide (1 ≤ i ∧ i < 3)) || (a == 7 && decide (1 ≤ i ∧ i < 3))
def nrm (r : xG) : Prop := ∀ a i, used a i = false → r a i = 0
/-- the bounds within which the numbers of a game are ints -/
def rng (r : xG) : Prop := ∀ a i, r a i < 2 ^ 32
def cB (r own : xG) : xG := fun a => if a = 7 then own 7 else r a
def cR (r own : xG) : xG := fun a i => if a = 1 ∨ a = 2 ∨ a = 3 ∨ a = 4 then r a i else own a i
theorem zcpy {f1 f2 : Nat → Nat} (h : ∀ i, 12 ≤ i → f1 i = 0 ∧ f2 i = 0) : va_cpy f1 f2 0 0 12 = f1 := by
  funext i
  unfold va_cpy
  by_cases h1 : 0 ≤ i ∧ i < 0 + 12
  · rw [if_pos h1, Nat.zero_add, Nat.sub_zero]
  · rw [if_neg h1, (h i (by omega)).1, (h i (by omega)).2]
theorem nrm12 {r : xG} (h : nrm r) {a : Nat} (ha : 2 ≤ a ∧ a ≤ 4) {i : Nat} (hi : 12 ≤ i) : r a i = 0 := h a i (by
  unfold used
  simp only [show (a == 0) = false from by simp; omega, show (a == 1) = false from by simp; omega, show decide (i < 12) = false from by simp; omega, show decide (5 ≤ a ∧ a ≤ 6) = false from by simp; omega, show (a == 7) = false from by simp; omega, Bool.false_and, Bool.and_false, Bool.or_false])
theorem s46 {q : Nat} (h : isG g = true) (hq : isG q = true) (hgq : q ≠ g) (n1 : nrm (S.1 g)) (n2 : nrm (S.1 q)) (b2 : rng (S.1 q)) : ev xs L 46 0 [.ref (g + 1), .ref (q + 1)] [] (hS S t) = some (.inl none, hS (pg S g (cR (S.1 q) (S.1 g))) t) := by
  have hb := b2 1 3
  have z2 : va_cpy (S.1 q 2) (S.1 g 2) 0 0 12 = S.1 q 2 := zcpy (fun i hi => ⟨nrm12 n2 (by decide) hi, nrm12 n1 (by decide) hi⟩)
  have z3 : va_cpy (S.1 q 3) (S.1 g 3) 0 0 12 = S.1 q 3 := zcpy (fun i hi => ⟨nrm12 n2 (by decide) hi, nrm12 n1 (by decide) hi⟩)
  have z4 : va_cpy (S.1 q 4) (S.1 g 4) 0 0 12 = S.1 q 4 := zcpy (fun i hi => ⟨nrm12 n2 (by decide) hi, nrm12 n1 (by decide) hi⟩)
  have e0 : hS S t = hS (pg S g (S.1 g)) t := by rw [pg_self]
  rw [e0]
  simp (config := { decide := false, maxSteps := 1000000 }) (disch := first | assumption | exact nlg_i _ | exact nlg_r _ | exact nlg_n | omega | decide) only [r46_0, r46_1, r46_2, r46_5, r46_8, r46_9, r46_12, r46_13, r46_14, r46_17, r46_18, r46_20, r46_23, r46_24, r46_27, r46_28, r46_29, r46_32, r46_33, r46_35, r46_38, r46_39, r46_42, r46_43, r46_44, r46_47, r46_48, r46_50, r46_53, st_g0_0, st_g0_1, st_g0_2, st_g0_3, st_g0_4, st_p0_4, st_g0_5, st_p0_5, st_g0_6, st_p0_6, st_g0_7, st_p0_7, st_v0, st_g1_0, st_g1_1, st_g1_2, st_g1_3, st_p1_3, st_v1, st_g7_0, st_g7_1, st_p7_1, st_g7_2, st_p7_2, st_v7, st_i2, st_is2, st_i3, st_is3, st_i4, st_is4, st_i5, st_is5, st_i6, st_is6, st_l8, st_ls8, st_y2, st_y3, st_y4, st_y8, st_o100_0, st_o100_1, st_o100_2, st_o100_3, st_o100_4, st_o100_5, st_o100_6, st_o100_7, st_q100_7, st_o100_8, st_q100_8, st_w100, st_o110_0, st_o110_1, st_w110, st_o129_0, st_o129_1, st_q129_1, st_o129_2, st_q129_2, st_w129, st_o205_0, st_o205_1, st_q205_1, st_o205_2, st_o205_3, st_q205_3, st_o205_4, st_q205_4, st_o205_5, st_q205_5, st_o205_6, st_q205_6, st_o205_7, st_q205_7, st_o205_8, st_q205_8, st_o205_9, st_q205_9, st_w205, st_o235_0, st_o235_1, st_o235_2, st_o235_3, st_o235_4, st_o235_5, st_o235_6, st_o235_7, st_q235_7, st_o235_8, st_q235_8, st_o235_9, st_o235_10, st_q235_10, st_o235_11, st_q235_11, st_o235_12, st_q235_12, st_o235_13, st_q235_13, st_o235_14, st_q235_14, st_o235_15, st_q235_15, st_o235_16, st_q235_16, st_o235_17, st_q235_17, st_o235_18, st_q235_18, st_o235_19, st_o235_20, st_o235_21, st_q235_21, st_o235_22, st_q235_22, st_o235_23, st_o235_24, st_q235_24, st_w235, st_a204, st_as204, st_a206, st_as206, st_a216, st_as216, st_a236, st_as236, st_a237, st_as237, st_a238, st_as238, st_a239, st_as239, st_a240, st_as240, st_a241, st_as241, st_a242, st_as242, st_a243, st_as243, st_a244, st_as244, st_a245, st_as245, st_a246, st_as246, st_r130, st_r203, nx_in, nx_clamp, nx_i2n, nx_l2n, nx_add, nx_sub, nx_pred, nx_mul, nx_lt, nx_le, nx_eq, nx_shl, nx_shr, nx_and1, nx_andm, nx_m1, nx_or, nx_dr, nx_rem, nx_kC, nx_ift, nx_iff, pg_sF, pg_sG, pg_e, pg_n, up2_a, upR_n, z2, z3, z4, ↓nif_lt_t, ↓nif_lt_f, ↓nif_le_t, ↓nif_le_f, ↓nif_eq_t, ↓nif_eq_f, ↓nif_ne_t, ↓nif_ne_f, Nat.one_mul, List.cons_append, List.nil_append, List.append_nil, Option.toList, if_true, if_false, Bool.false_eq_true, and_true, true_and, and_self]
  have e9 : upR (upR (upR (up2 (S.1 g) 1 3 (S.1 q 1 3)) 2 (S.1 q 2)) 3 (S.1 q 3)) 4 (S.1 q 4) = cR (S.1 q) (S.1 g) := by
    funext a i
    unfold cR upR up2
    by_cases h4 : a = 4
    · subst h4
      simp
    by_cases h3 : a = 3
    · subst h3
      simp
    by_cases h2 : a = 2
    · subst h2
      simp
    by_cases h1 : a = 1
    · subst h1
      by_cases h0 : i = 3
      · subst h0
        simp
      · simp [h0, n1 1 i (by simp [used, h0]), n2 1 i (by simp [used, h0])]
    simp [h1, h2, h3, h4]
  rw [e9]
theorem cR_1 (r r' : xG) : cR r r' 1 = r 1 := rfl
theorem cR_5 (r r' : xG) : cR r r' 5 = r' 5 := rfl
theorem cR_6 (r r' : xG) : cR r r' 6 = r' 6 := rfl
theorem cR_0 (r r' : xG) : cR r r' 0 = r' 0 := rfl
theorem s10 {q : Nat} (h : isG g = true) (hq : isG q = true) (hgq : q ≠ g) (n1 : nrm (S.1 g)) (n2 : nrm (S.1 q)) (b2 : rng (S.1 q)) : ev xs L 10 0 [.ref g, .ref q, .null] [] (hS S t) = some (.inl none, hS (pg S g (cB (S.1 q) (S.1 g))) t) := by
  have e1 := s46 (xs := xs) (L := L) (S := S) (t := t) h hq hgq n1 n2 b2
  have b51 := b2 5 1
  have b52 := b2 5 2
  have b61 := b2 6 1
  have b62 := b2 6 2
  have b04 := b2 0 4
  have b05 := b2 0 5
  have b06 := b2 0 6
  have b07 := b2 0 7
  simp (config := { decide := false, maxSteps := 1000000 }) (disch := first | assumption | exact nlg_i _ | exact nlg_r _ | exact nlg_n | omega | decide) only [r10_0, r10_1, r10_4, r10_5, r10_8, r10_11, r10_12, r10_13, r10_14, r10_15, r10_18, r10_19, r10_22, r10_23, r10_24, r10_27, r10_28, r10_29, r10_30, r10_31, r10_34, r10_35, r10_36, r10_39, r10_40, r10_41, r10_42, r10_45, r10_48, r10_49, r10_50, r10_53, r10_56, r10_57, r10_58, r10_61, r10_64, r10_65, r10_66, r10_69, r10_72, r10_73, r10_74, r10_77, r10_80, st_g0_0, st_g0_1, st_g0_2, st_g0_3, st_g0_4, st_p0_4, st_g0_5, st_p0_5, st_g0_6, st_p0_6, st_g0_7, st_p0_7, st_v0, st_g1_0, st_g1_1, st_g1_2, st_g1_3, st_p1_3, st_v1, st_g7_0, st_g7_1, st_p7_1, st_g7_2, st_p7_2, st_v7, st_i2, st_is2, st_i3, st_is3, st_i4, st_is4, st_i5, st_is5, st_i6, st_is6, st_l8, st_ls8, st_y2, st_y3, st_y4, st_y8, st_o100_0, st_o100_1, st_o100_2, st_o100_3, st_o100_4, st_o100_5, st_o100_6, st_o100_7, st_q100_7, st_o100_8, st_q100_8, st_w100, st_o110_0, st_o110_1, st_w110, st_o129_0, st_o129_1, st_q129_1, st_o129_2, st_q129_2, st_w129, st_o205_0, st_o205_1, st_q205_1, st_o205_2, st_o205_3, st_q205_3, st_o205_4, st_q205_4, st_o205_5, st_q205_5, st_o205_6, st_q205_6, st_o205_7, st_q205_7, st_o205_8, st_q205_8, st_o205_9, st_q205_9, st_w205, st_o235_0, st_o235_1, st_o235_2, st_o235_3, st_o235_4, st_o235_5, st_o235_6, st_o235_7, st_q235_7, st_o235_8, st_q235_8, st_o235_9, st_o235_10, st_q235_10, st_o235_11, st_q235_11, st_o235_12, st_q235_12, st_o235_13, st_q235_13, st_o235_14, st_q235_14, st_o235_15, st_q235_15, st_o235_16, st_q235_16, st_o235_17, st_q235_17, st_o235_18, st_q235_18, st_o235_19, st_o235_20, st_o235_21, st_q235_21, st_o235_22, st_q235_22, st_o235_23, st_o235_24, st_q235_24, st_w235, st_a204, st_as204, st_a206, st_as206, st_a216, st_as216, st_a236, st_as236, st_a237, st_as237, st_a238, st_as238, st_a239, st_as239, st_a240, st_as240, st_a241, st_as241, st_a242, st_as242, st_a243, st_as243, st_a244, st_as244, st_a245, st_as245, st_a246, st_as246, st_r130, st_r203, nx_in, nx_clamp, nx_i2n, nx_l2n, nx_add, nx_sub, nx_pred, nx_mul, nx_lt, nx_le, nx_eq, nx_shl, nx_shr, nx_and1, nx_andm, nx_m1, nx_or, nx_dr, nx_rem, nx_kC, nx_ift, nx_iff, e1, pg_sF, pg_sG, pg_e, pg_n, up2_a, upR_n, up2_e, ↓nif_lt_t, ↓nif_lt_f, ↓nif_le_t, ↓nif_le_f, ↓nif_eq_t, ↓nif_eq_f, ↓nif_ne_t, ↓nif_ne_f, Nat.one_mul, List.cons_append, List.nil_append, List.append_nil, Option.toList, if_true, if_false, Bool.false_eq_true, and_true, true_and, and_self]
  have e9 : up2 (up2 (up2 (up2 (up2 (up2 (up2 (up2 (cR (S.1 q) (S.1 g)) 5 1 (S.1 q 5 1)) 6 1 (S.1 q 6 1)) 5 2 (S.1 q 5 2)) 6 2 (S.1 q 6 2)) 0 4 (S.1 q 0 4)) 0 5 (S.1 q 0 5)) 0 6 (S.1 q 0 6)) 0 7 (S.1 q 0 7) = cB (S.1 q) (S.1 g) := by
    funext a i
    unfold cB cR up2
    by_cases h7 : a = 7
    · subst h7
      simp
    by_cases h0 : a = 0
    · subst h0
      by_cases i4 : i = 4
      · simp [i4]
      by_cases i5 : i = 5
      · simp [i5]
      by_cases i6 : i = 6
      · simp [i6]
      by_cases i7 : i = 7
      · simp [i7]
      have hu : used 0 i = false := by
        unfold used
        simp
        omega
      simp [i4, i5, i6, i7, n1 0 i hu, n2 0 i hu]
    by_cases h5 : a = 5
    · subst h5
      by_cases i1 : i = 1
      · simp [i1]
      by_cases i2 : i = 2
      · simp [i2]
      have hu : used 5 i = false := by
        unfold used
        simp
        omega
      simp [i1, i2, n1 5 i hu, n2 5 i hu]
    by_cases h6 : a = 6
    · subst h6
      by_cases i1 : i = 1
      · simp [i1]
      by_cases i2 : i = 2
      · simp [i2]
      have hu : used 6 i = false := by
        unfold used
        simp
        omega
      simp [i1, i2, n1 6 i hu, n2 6 i hu]
    by_cases h1 : a = 1 ∨ a = 2 ∨ a = 3 ∨ a = 4
    · simp [h0, h5, h6, h7, h1]
    · have hu : used a i = false := by
        unfold used
        simp
        omega
      simp [h0, h5, h6, h7, h1, n1 a i hu, n2 a i hu]
  rw [e9]
theorem zcpK {f1 f2 : Nat → Nat} (h : ∀ i, 60 ≤ i → f1 i = 0 ∧ f2 i = 0) : va_cpy f1 f2 0 0 60 = f1 := by
  funext i
  unfold va_cpy
  by_cases h1 : 0 ≤ i ∧ i < 0 + 60
  · rw [if_pos h1, Nat.zero_add, Nat.sub_zero]
  · rw [if_neg h1, (h i (by omega)).1, (h i (by omega)).2]
def nrK (k : Nat → Nat) : Prop := ∀ i, 60 ≤ i → k i = 0
def cP (r own : xG) : xG := fun a => if a = 7 then r 7 else own a
theorem pg_sK (r : xG) (k : Nat → Nat) : sKG (pg S g r) g k = pg (sKG S g k) g r := rfl
theorem pg_K (r : xG) : (pg S g r).2 = S.2 := rfl
theorem sKG_1 (k : Nat → Nat) : (sKG S g k).1 = S.1 := rfl
theorem s41 {q : Nat} (h : isG g = true) (hq : isG q = true) (hgq : q ≠ g) (n1 : nrm (S.1 g)) (n2 : nrm (S.1 q)) (b2 : rng (S.1 q)) (k1 : nrK (S.2.1 g)) (k2 : nrK (S.2.1 q)) : ev xs L 41 0 [.ref (g + 7), .ref (q + 7)] [] (hS S t) = some (.inl none, hS (pg (sKG S g (S.2.1 q)) g (cP (S.1 q) (S.1 g))) t) := by
  have b71 := b2 7 1
  have b72 := b2 7 2
  have z2 : va_cpy (S.2.1 q) (S.2.1 g) 0 0 60 = S.2.1 q := zcpK (fun i hi => ⟨k2 i hi, k1 i hi⟩)
  have e0 : hS S t = hS (pg S g (S.1 g)) t := by rw [pg_self]
  rw [e0]
  simp (config := { decide := false, maxSteps := 1000000 }) (disch := first | assumption | exact nlg_i _ | exact nlg_r _ | exact nlg_n | omega | decide) only [r41_0, r41_1, r41_2, r41_5, r41_8, r41_9, r41_10, r41_13, r41_16, r41_17, r41_20, r41_21, r41_22, r41_25, r41_26, r41_28, r41_31, st_g0_0, st_g0_1, st_g0_2, st_g0_3, st_g0_4, st_p0_4, st_g0_5, st_p0_5, st_g0_6, st_p0_6, st_g0_7, st_p0_7, st_v0, st_g1_0, st_g1_1, st_g1_2, st_g1_3, st_p1_3, st_v1, st_g7_0, st_g7_1, st_p7_1, st_g7_2, st_p7_2, st_v7, st_i2, st_is2, st_i3, st_is3, st_i4, st_is4, st_i5, st_is5, st_i6, st_is6, st_l8, st_ls8, st_y2, st_y3, st_y4, st_y8, st_o100_0, st_o100_1, st_o100_2, st_o100_3, st_o100_4, st_o100_5, st_o100_6, st_o100_7, st_q100_7, st_o100_8, st_q100_8, st_w100, st_o110_0, st_o110_1, st_w110, st_o129_0, st_o129_1, st_q129_1, st_o129_2, st_q129_2, st_w129, st_o205_0, st_o205_1, st_q205_1, st_o205_2, st_o205_3, st_q205_3, st_o205_4, st_q205_4, st_o205_5, st_q205_5, st_o205_6, st_q205_6, st_o205_7, st_q205_7, st_o205_8, st_q205_8, st_o205_9, st_q205_9, st_w205, st_o235_0, st_o235_1, st_o235_2, st_o235_3, st_o235_4, st_o235_5, st_o235_6, st_o235_7, st_q235_7, st_o235_8, st_q235_8, st_o235_9, st_o235_10, st_q235_10, st_o235_11, st_q235_11, st_o235_12, st_q235_12, st_o235_13, st_q235_13, st_o235_14, st_q235_14, st_o235_15, st_q235_15, st_o235_16, st_q235_16, st_o235_17, st_q235_17, st_o235_18, st_q235_18, st_o235_19, st_o235_20, st_o235_21, st_q235_21, st_o235_22, st_q235_22, st_o235_23, st_o235_24, st_q235_24, st_w235, st_a204, st_as204, st_a206, st_as206, st_a216, st_as216, st_a236, st_as236, st_a237, st_as237, st_a238, st_as238, st_a239, st_as239, st_a240, st_as240, st_a241, st_as241, st_a242, st_as242, st_a243, st_as243, st_a244, st_as244, st_a245, st_as245, st_a246, st_as246, st_r130, st_r203, nx_in, nx_clamp, nx_i2n, nx_l2n, nx_add, nx_sub, nx_pred, nx_mul, nx_lt, nx_le, nx_eq, nx_shl, nx_shr, nx_and1, nx_andm, nx_m1, nx_or, nx_dr, nx_rem, nx_kC, nx_ift, nx_iff, pg_sF, pg_sG, pg_e, pg_n, up2_a, upR_n, pg_K, z2, pg_sK, ↓nif_lt_t, ↓nif_lt_f, ↓nif_le_t, ↓nif_le_f, ↓nif_eq_t, ↓nif_eq_f, ↓nif_ne_t, ↓nif_ne_f, Nat.one_mul, List.cons_append, List.nil_append, List.append_nil, Option.toList, if_true, if_false, Bool.false_eq_true, and_true, true_and, and_self]
  have e9 : up2 (up2 (S.1 g) 7 1 (S.1 q 7 1)) 7 2 (S.1 q 7 2) = cP (S.1 q) (S.1 g) := by
    funext a i
    unfold cP up2
    by_cases h7 : a = 7
    · subst h7
      by_cases i1 : i = 1
      · simp [i1]
      by_cases i2 : i = 2
      · simp [i2]
      have hu : used 7 i = false := by
        unfold used
        simp
        omega
      simp [i1, i2, n1 7 i hu, n2 7 i hu]
    · simp [h7]
  rw [e9]
end XGM
