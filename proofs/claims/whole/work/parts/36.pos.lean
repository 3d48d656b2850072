section XPO
variable {xs : Nat → Int32} {L : Nat} {S : xS} {t : Nat × Nat × Nat} {g q c a b : Nat}
/-- the store with a game's numbers and keys put in place of its own -/
def pk (S : xS) (g : Nat) (r : xG) (k : Nat → Nat) : xS := (fun g' => if g' = g then r else S.1 g', fun g' => if g' = g then k else S.2.1 g', S.2.2)
theorem pk_e (r : xG) (k : Nat → Nat) : (pk S g r k).1 g = r := if_pos rfl
theorem pk_n (r : xG) (k : Nat → Nat) {g' : Nat} (h : g' ≠ g) : (pk S g r k).1 g' = S.1 g' := if_neg h
theorem pk_k (r : xG) (k : Nat → Nat) : (pk S g r k).2.1 g = k := if_pos rfl
theorem pk_kn (r : xG) (k : Nat → Nat) {g' : Nat} (h : g' ≠ g) : (pk S g r k).2.1 g' = S.2.1 g' := if_neg h
theorem pk_2 (r : xG) (k : Nat → Nat) : (pk S g r k).2.2 = S.2.2 := rfl
theorem pk_self : pk S g (S.1 g) (S.2.1 g) = S := by
  refine Prod.ext ?_ (Prod.ext ?_ rfl)
  · funext g'
    show (if g' = g then _ else _) = _
    split
    · next h => rw [h]
    · rfl
  · funext g'
    show (if g' = g then _ else _) = _
    split
    · next h => rw [h]
    · rfl
theorem pk_pg (r : xG) (k : Nat → Nat) (r' : xG) : pg (pk S g r k) g r' = pk S g r' k := by
  refine Prod.ext ?_ rfl
  funext g'
  show (if g' = g then r' else if g' = g then r else S.1 g') = (if g' = g then r' else S.1 g')
  split <;> rfl
theorem pk_pk (r r' : xG) (k k' : Nat → Nat) : pk (pk S g r k) g r' k' = pk S g r' k' := by
  refine Prod.ext ?_ (Prod.ext ?_ rfl)
  · funext g'
    show (if g' = g then r' else if g' = g then r else S.1 g') = (if g' = g then r' else S.1 g')
    split <;> rfl
  · funext g'
    show (if g' = g then k' else if g' = g then k else S.2.1 g') = (if g' = g then k' else S.2.1 g')
    split <;> rfl
theorem pk_sF (r : xG) (k : Nat → Nat) (a i v : Nat) : sF (pk S g r k) g a i v = pk S g (up2 r a i v) k := by
  have h := pg_sF (S := pk S g r k) (g := g) r a i v
  rw [pk_pg, pk_pg] at h
  exact h
theorem pk_sK (r : xG) (k : Nat → Nat) (i v : Nat) : sK (pk S g r k) g i v = pk S g r (upN k i v) := by
  refine Prod.ext rfl (Prod.ext ?_ rfl)
  funext g' i'
  show (if g' = g ∧ i' = i then v else (if g' = g then k else S.2.1 g') i') = (if g' = g then upN k i v else S.2.1 g') i'
  by_cases h : g' = g
  · simp only [h, true_and, if_true]
    rfl
  · simp only [h, false_and, if_false]
theorem pk_of_pg (r : xG) : pg S g r = pk S g r (S.2.1 g) := by
  have h := pk_pg (S := S) (g := g) (S.1 g) (S.2.1 g) r
  rw [pk_self] at h
  exact h
/-- what a game's numbers keep at rest -/
def gok (r : xG) : Prop := (4 < r 1 3 ∧ r 1 3 ≤ 12) ∧ (∀ c, c < 12 → r 2 c ≤ 8 ∧ r 3 c ≤ 8 ∧ r 4 c < 2 ^ r 3 c) ∧ (∀ c, c < r 1 3 → 1 ≤ r 2 c) ∧ (1 ≤ r 0 4 ∧ r 0 4 ≤ 2) ∧ (r 5 1 ≤ 20 ∧ r 5 2 ≤ 20) ∧ (r 7 1 ≤ 20 ∧ r 7 2 < 20) ∧ (r 0 6 ≤ 20 ∧ r 0 7 ≤ 40)
theorem gok_rok {r : xG} (h : isG g = true) (ho : gok r) (hS : S.1 g = r) : rok S g := by
  unfold rok
  rw [hS]
  have h1 := ho.1
  exact ⟨h, ⟨by omega, h1.2⟩, fun c hc => ⟨(ho.2.1 c hc).1, by have := (ho.2.1 c hc).2.1; omega, (ho.2.1 c hc).2.2⟩⟩
theorem s6k {r : xG} {k : Nat → Nat} (h : isG g = true) (ho : gok r) {p : Nat} (hp : p < 3) : ev xs L 6 0 [.ref g, .int (nI p), .null, .null, .null] [] (hS (pk S g r k) t) = some (.inl (some (.long (lN (ky r p)))), hS (pk S g r k) t) := by
  have e := s6 (xs := xs) (L := L) (S := pk S g r k) (t := t) (gok_rok h ho (pk_e r k)) (by rw [pk_e]; exact ho.1.1) (by rw [pk_e]; exact ho.2.2.1) (by rw [pk_e]; exact fun c hc => (ho.2.1 c hc).2.1) (by rw [pk_e]; exact ho.2.2.2.2.1.1) (by rw [pk_e]; exact ho.2.2.2.2.1.2) (by rw [pk_e]; exact ho.2.2.2.1.1) (by rw [pk_e]; exact ho.2.2.2.1.2) hp
  rw [pk_e] at e
  exact e
theorem ky_lt {r : xG} (p : Nat) : l2n (lN (ky r p)) = ky r p % 2 ^ 64 := by
  show (BitVec.ofNat 64 (ky r p)).toNat = _
  rw [BitVec.toNat_ofNat]
theorem s39 {r : xG} {k : Nat → Nat} (h : isG g = true) (ho : gok r) (hk : ∀ p, p < 3 → ky r p < 2 ^ 64) : ev xs L 39 0 [.ref (g + 7), .ref g, .null] [] (hS (pk S g r k) t) = some (.inl none, hS (pk S g (adR r) (adK r r k)) t) := by
  have e0 := fun (k : Nat → Nat) => s6k (xs := xs) (L := L) (S := S) (t := t) (k := k) h ho (p := 0) (by decide)
  have e1 := fun (k : Nat → Nat) => s6k (xs := xs) (L := L) (S := S) (t := t) (k := k) h ho (p := 1) (by decide)
  have e2 := fun (k : Nat → Nat) => s6k (xs := xs) (L := L) (S := S) (t := t) (k := k) h ho (p := 2) (by decide)
  have k0 := hk 0 (by decide)
  have k1 := hk 1 (by decide)
  have k2 := hk 2 (by decide)
  have h7 := ho.2.2.2.2.2.1
  have a1 : nI 0 + nI 1 = nI 1 := rfl
  unfold adR adK
  by_cases h1 : r 7 2 + 1 < 20
  · by_cases h2 : 20 < r 7 1 + 1
    · simp (config := { decide := false, maxSteps := 1000000 }) (disch := first | assumption | exact nlg_i _ | exact nlg_r _ | exact nlg_n | omega | decide) only [r39_0, r39_1, r39_2, r39_3, r39_4, r39_7, r39_8, r39_11, r39_12, r39_15, r39_16, r39_17, r39_18, r39_19, r39_20, r39_21, r39_24, r39_25, r39_28, r39_31, r39_32, r39_33, r39_36, r39_37, r39_38, r39_40, r39_43, r39_44, r39_47, r39_48, r39_49, r39_52, r39_53, r39_56, r39_57, r39_58, r39_61, r39_62, r39_63, r39_65, r39_68, r39_71, st_g0_0, st_g0_1, st_g0_2, st_g0_3, st_g0_4, st_p0_4, st_g0_5, st_p0_5, st_g0_6, st_p0_6, st_g0_7, st_p0_7, st_v0, st_g1_0, st_g1_1, st_g1_2, st_g1_3, st_p1_3, st_v1, st_g7_0, st_g7_1, st_p7_1, st_g7_2, st_p7_2, st_v7, st_i2, st_is2, st_i3, st_is3, st_i4, st_is4, st_i5, st_is5, st_i6, st_is6, st_l8, st_ls8, st_y2, st_y3, st_y4, st_y8, st_o100_0, st_o100_1, st_o100_2, st_o100_3, st_o100_4, st_o100_5, st_o100_6, st_o100_7, st_q100_7, st_o100_8, st_q100_8, st_w100, st_o110_0, st_o110_1, st_w110, st_o129_0, st_o129_1, st_q129_1, st_o129_2, st_q129_2, st_w129, st_o205_0, st_o205_1, st_q205_1, st_o205_2, st_o205_3, st_q205_3, st_o205_4, st_q205_4, st_o205_5, st_q205_5, st_o205_6, st_q205_6, st_o205_7, st_q205_7, st_o205_8, st_q205_8, st_o205_9, st_q205_9, st_w205, st_o235_0, st_o235_1, st_o235_2, st_o235_3, st_o235_4, st_o235_5, st_o235_6, st_o235_7, st_q235_7, st_o235_8, st_q235_8, st_o235_9, st_o235_10, st_q235_10, st_o235_11, st_q235_11, st_o235_12, st_q235_12, st_o235_13, st_q235_13, st_o235_14, st_q235_14, st_o235_15, st_q235_15, st_o235_16, st_q235_16, st_o235_17, st_q235_17, st_o235_18, st_q235_18, st_o235_19, st_o235_20, st_o235_21, st_q235_21, st_o235_22, st_q235_22, st_o235_23, st_o235_24, st_q235_24, st_w235, st_a204, st_as204, st_a206, st_as206, st_a216, st_as216, st_a236, st_as236, st_a237, st_as237, st_a238, st_as238, st_a239, st_as239, st_a240, st_as240, st_a241, st_as241, st_a242, st_as242, st_a243, st_as243, st_a244, st_as244, st_a245, st_as245, st_a246, st_as246, st_r130, st_r203, nx_in, nx_clamp, nx_i2n, nx_l2n, nx_add, nx_sub, nx_pred, nx_mul, nx_lt, nx_le, nx_eq, nx_shl, nx_shr, nx_and1, nx_andm, nx_m1, nx_or, nx_dr, nx_rem, nx_kC, nx_ift, nx_iff, e0, e1, e2, pk_e, pk_k, pk_sF, pk_sK, up2_e, up2_a, up2_i, h1, h2, Nat.add_zero, ↓nif_lt_t, ↓nif_lt_f, ↓nif_le_t, ↓nif_le_f, ↓nif_eq_t, ↓nif_eq_f, ↓nif_ne_t, ↓nif_ne_f, Nat.one_mul, List.cons_append, List.nil_append, List.append_nil, Option.toList, if_true, if_false, Bool.false_eq_true, and_true, true_and, and_self]
    · simp (config := { decide := false, maxSteps := 1000000 }) (disch := first | assumption | exact nlg_i _ | exact nlg_r _ | exact nlg_n | omega | decide) only [r39_0, r39_1, r39_2, r39_3, r39_4, r39_7, r39_8, r39_11, r39_12, r39_15, r39_16, r39_17, r39_18, r39_19, r39_20, r39_21, r39_24, r39_25, r39_28, r39_31, r39_32, r39_33, r39_36, r39_37, r39_38, r39_40, r39_43, r39_44, r39_47, r39_48, r39_49, r39_52, r39_53, r39_56, r39_57, r39_58, r39_61, r39_62, r39_63, r39_65, r39_68, r39_71, st_g0_0, st_g0_1, st_g0_2, st_g0_3, st_g0_4, st_p0_4, st_g0_5, st_p0_5, st_g0_6, st_p0_6, st_g0_7, st_p0_7, st_v0, st_g1_0, st_g1_1, st_g1_2, st_g1_3, st_p1_3, st_v1, st_g7_0, st_g7_1, st_p7_1, st_g7_2, st_p7_2, st_v7, st_i2, st_is2, st_i3, st_is3, st_i4, st_is4, st_i5, st_is5, st_i6, st_is6, st_l8, st_ls8, st_y2, st_y3, st_y4, st_y8, st_o100_0, st_o100_1, st_o100_2, st_o100_3, st_o100_4, st_o100_5, st_o100_6, st_o100_7, st_q100_7, st_o100_8, st_q100_8, st_w100, st_o110_0, st_o110_1, st_w110, st_o129_0, st_o129_1, st_q129_1, st_o129_2, st_q129_2, st_w129, st_o205_0, st_o205_1, st_q205_1, st_o205_2, st_o205_3, st_q205_3, st_o205_4, st_q205_4, st_o205_5, st_q205_5, st_o205_6, st_q205_6, st_o205_7, st_q205_7, st_o205_8, st_q205_8, st_o205_9, st_q205_9, st_w205, st_o235_0, st_o235_1, st_o235_2, st_o235_3, st_o235_4, st_o235_5, st_o235_6, st_o235_7, st_q235_7, st_o235_8, st_q235_8, st_o235_9, st_o235_10, st_q235_10, st_o235_11, st_q235_11, st_o235_12, st_q235_12, st_o235_13, st_q235_13, st_o235_14, st_q235_14, st_o235_15, st_q235_15, st_o235_16, st_q235_16, st_o235_17, st_q235_17, st_o235_18, st_q235_18, st_o235_19, st_o235_20, st_o235_21, st_q235_21, st_o235_22, st_q235_22, st_o235_23, st_o235_24, st_q235_24, st_w235, st_a204, st_as204, st_a206, st_as206, st_a216, st_as216, st_a236, st_as236, st_a237, st_as237, st_a238, st_as238, st_a239, st_as239, st_a240, st_as240, st_a241, st_as241, st_a242, st_as242, st_a243, st_as243, st_a244, st_as244, st_a245, st_as245, st_a246, st_as246, st_r130, st_r203, nx_in, nx_clamp, nx_i2n, nx_l2n, nx_add, nx_sub, nx_pred, nx_mul, nx_lt, nx_le, nx_eq, nx_shl, nx_shr, nx_and1, nx_andm, nx_m1, nx_or, nx_dr, nx_rem, nx_kC, nx_ift, nx_iff, e0, e1, e2, pk_e, pk_k, pk_sF, pk_sK, up2_e, up2_a, up2_i, h1, h2, Nat.add_zero, ↓nif_lt_t, ↓nif_lt_f, ↓nif_le_t, ↓nif_le_f, ↓nif_eq_t, ↓nif_eq_f, ↓nif_ne_t, ↓nif_ne_f, Nat.one_mul, List.cons_append, List.nil_append, List.append_nil, Option.toList, if_true, if_false, Bool.false_eq_true, and_true, true_and, and_self]
  · by_cases h2 : 20 < r 7 1 + 1
    · simp (config := { decide := false, maxSteps := 1000000 }) (disch := first | assumption | exact nlg_i _ | exact nlg_r _ | exact nlg_n | omega | decide) only [r39_0, r39_1, r39_2, r39_3, r39_4, r39_7, r39_8, r39_11, r39_12, r39_15, r39_16, r39_17, r39_18, r39_19, r39_20, r39_21, r39_24, r39_25, r39_28, r39_31, r39_32, r39_33, r39_36, r39_37, r39_38, r39_40, r39_43, r39_44, r39_47, r39_48, r39_49, r39_52, r39_53, r39_56, r39_57, r39_58, r39_61, r39_62, r39_63, r39_65, r39_68, r39_71, st_g0_0, st_g0_1, st_g0_2, st_g0_3, st_g0_4, st_p0_4, st_g0_5, st_p0_5, st_g0_6, st_p0_6, st_g0_7, st_p0_7, st_v0, st_g1_0, st_g1_1, st_g1_2, st_g1_3, st_p1_3, st_v1, st_g7_0, st_g7_1, st_p7_1, st_g7_2, st_p7_2, st_v7, st_i2, st_is2, st_i3, st_is3, st_i4, st_is4, st_i5, st_is5, st_i6, st_is6, st_l8, st_ls8, st_y2, st_y3, st_y4, st_y8, st_o100_0, st_o100_1, st_o100_2, st_o100_3, st_o100_4, st_o100_5, st_o100_6, st_o100_7, st_q100_7, st_o100_8, st_q100_8, st_w100, st_o110_0, st_o110_1, st_w110, st_o129_0, st_o129_1, st_q129_1, st_o129_2, st_q129_2, st_w129, st_o205_0, st_o205_1, st_q205_1, st_o205_2, st_o205_3, st_q205_3, st_o205_4, st_q205_4, st_o205_5, st_q205_5, st_o205_6, st_q205_6, st_o205_7, st_q205_7, st_o205_8, st_q205_8, st_o205_9, st_q205_9, st_w205, st_o235_0, st_o235_1, st_o235_2, st_o235_3, st_o235_4, st_o235_5, st_o235_6, st_o235_7, st_q235_7, st_o235_8, st_q235_8, st_o235_9, st_o235_10, st_q235_10, st_o235_11, st_q235_11, st_o235_12, st_q235_12, st_o235_13, st_q235_13, st_o235_14, st_q235_14, st_o235_15, st_q235_15, st_o235_16, st_q235_16, st_o235_17, st_q235_17, st_o235_18, st_q235_18, st_o235_19, st_o235_20, st_o235_21, st_q235_21, st_o235_22, st_q235_22, st_o235_23, st_o235_24, st_q235_24, st_w235, st_a204, st_as204, st_a206, st_as206, st_a216, st_as216, st_a236, st_as236, st_a237, st_as237, st_a238, st_as238, st_a239, st_as239, st_a240, st_as240, st_a241, st_as241, st_a242, st_as242, st_a243, st_as243, st_a244, st_as244, st_a245, st_as245, st_a246, st_as246, st_r130, st_r203, nx_in, nx_clamp, nx_i2n, nx_l2n, nx_add, nx_sub, nx_pred, nx_mul, nx_lt, nx_le, nx_eq, nx_shl, nx_shr, nx_and1, nx_andm, nx_m1, nx_or, nx_dr, nx_rem, nx_kC, nx_ift, nx_iff, e0, e1, e2, pk_e, pk_k, pk_sF, pk_sK, up2_e, up2_a, up2_i, h1, h2, Nat.add_zero, ↓nif_lt_t, ↓nif_lt_f, ↓nif_le_t, ↓nif_le_f, ↓nif_eq_t, ↓nif_eq_f, ↓nif_ne_t, ↓nif_ne_f, Nat.one_mul, List.cons_append, List.nil_append, List.append_nil, Option.toList, if_true, if_false, Bool.false_eq_true, and_true, true_and, and_self]
    · simp (config := { decide := false, maxSteps := 1000000 }) (disch := first | assumption | exact nlg_i _ | exact nlg_r _ | exact nlg_n | omega | decide) only [r39_0, r39_1, r39_2, r39_3, r39_4, r39_7, r39_8, r39_11, r39_12, r39_15, r39_16, r39_17, r39_18, r39_19, r39_20, r39_21, r39_24, r39_25, r39_28, r39_31, r39_32, r39_33, r39_36, r39_37, r39_38, r39_40, r39_43, r39_44, r39_47, r39_48, r39_49, r39_52, r39_53, r39_56, r39_57, r39_58, r39_61, r39_62, r39_63, r39_65, r39_68, r39_71, st_g0_0, st_g0_1, st_g0_2, st_g0_3, st_g0_4, st_p0_4, st_g0_5, st_p0_5, st_g0_6, st_p0_6, st_g0_7, st_p0_7, st_v0, st_g1_0, st_g1_1, st_g1_2, st_g1_3, st_p1_3, st_v1, st_g7_0, st_g7_1, st_p7_1, st_g7_2, st_p7_2, st_v7, st_i2, st_is2, st_i3, st_is3, st_i4, st_is4, st_i5, st_is5, st_i6, st_is6, st_l8, st_ls8, st_y2, st_y3, st_y4, st_y8, st_o100_0, st_o100_1, st_o100_2, st_o100_3, st_o100_4, st_o100_5, st_o100_6, st_o100_7, st_q100_7, st_o100_8, st_q100_8, st_w100, st_o110_0, st_o110_1, st_w110, st_o129_0, st_o129_1, st_q129_1, st_o129_2, st_q129_2, st_w129, st_o205_0, st_o205_1, st_q205_1, st_o205_2, st_o205_3, st_q205_3, st_o205_4, st_q205_4, st_o205_5, st_q205_5, st_o205_6, st_q205_6, st_o205_7, st_q205_7, st_o205_8, st_q205_8, st_o205_9, st_q205_9, st_w205, st_o235_0, st_o235_1, st_o235_2, st_o235_3, st_o235_4, st_o235_5, st_o235_6, st_o235_7, st_q235_7, st_o235_8, st_q235_8, st_o235_9, st_o235_10, st_q235_10, st_o235_11, st_q235_11, st_o235_12, st_q235_12, st_o235_13, st_q235_13, st_o235_14, st_q235_14, st_o235_15, st_q235_15, st_o235_16, st_q235_16, st_o235_17, st_q235_17, st_o235_18, st_q235_18, st_o235_19, st_o235_20, st_o235_21, st_q235_21, st_o235_22, st_q235_22, st_o235_23, st_o235_24, st_q235_24, st_w235, st_a204, st_as204, st_a206, st_as206, st_a216, st_as216, st_a236, st_as236, st_a237, st_as237, st_a238, st_as238, st_a239, st_as239, st_a240, st_as240, st_a241, st_as241, st_a242, st_as242, st_a243, st_as243, st_a244, st_as244, st_a245, st_as245, st_a246, st_as246, st_r130, st_r203, nx_in, nx_clamp, nx_i2n, nx_l2n, nx_add, nx_sub, nx_pred, nx_mul, nx_lt, nx_le, nx_eq, nx_shl, nx_shr, nx_and1, nx_andm, nx_m1, nx_or, nx_dr, nx_rem, nx_kC, nx_ift, nx_iff, e0, e1, e2, pk_e, pk_k, pk_sF, pk_sK, up2_e, up2_a, up2_i, h1, h2, Nat.add_zero, ↓nif_lt_t, ↓nif_lt_f, ↓nif_le_t, ↓nif_le_f, ↓nif_eq_t, ↓nif_eq_f, ↓nif_ne_t, ↓nif_ne_f, Nat.one_mul, List.cons_append, List.nil_append, List.append_nil, Option.toList, if_true, if_false, Bool.false_eq_true, and_true, true_and, and_self]
end XPO
