section XW
variable {xs : Nat → Int32} {L : Nat}
theorem kok_0 : kok (fun _ => 0) := ⟨fun _ _ => rfl, fun _ _ => show 0 < 2 ^ 64 by decide⟩
theorem sV_1 : sV.1 = sU.1 := rfl
theorem sV_2 : sV.2.1 = sU.2.1 := rfl
theorem sU_n {g : Nat} (h : g ≠ 101) : sU.1 g = sT.1 g := if_neg h
theorem sU_kn {g : Nat} (h : g ≠ 101) : sU.2.1 g = fun _ => 0 := if_neg h
theorem sU_c {c : Nat} (h : c < 8) : sU.1 (131 + 9 * c) = rI := by
  rw [sU_n (by omega)]
  show (if 131 + 9 * c = 226 then rI else if 131 + 9 * c = 217 then rI else if 131 + 9 * c = 207 then rI else if 131 ≤ 131 + 9 * c ∧ 131 + 9 * c < 131 + 9 * 8 ∧ (131 + 9 * c - 131) % 9 = 0 then rI else sP.1 (131 + 9 * c)) = rI
  rw [if_neg (by omega), if_neg (by omega), if_neg (by omega), if_pos (by omega)]
theorem mA_rel : mrel (sY.2.2.1 236) rI := by
  have h : mrel mA rI := by
    refine ⟨⟨rfl, rfl, rfl, rfl, rfl, rfl, rfl, rfl, rfl⟩, fun c hc => ?_, fun c h1 h2 => ?_⟩
    · have hc : c < 5 := hc
      rcases (show c = 0 ∨ c = 1 ∨ c = 2 ∨ c = 3 ∨ c = 4 by omega) with q | q | q | q | q <;> subst q <;> exact ⟨rfl, rfl⟩
    · have h1 : 5 ≤ c := h1
      rw [mA_v, mA_v]
      exact ⟨by rw [if_neg (by omega), if_neg (by omega), if_neg (by omega), if_neg (by omega), if_neg (by omega), if_pos (by omega)], by rw [if_neg (by omega), if_neg (by omega), if_pos (by omega)]⟩
  exact mrel_ge (A := mA) (by decide) h (fun i hi => sY_A i (by omega))
theorem inv_0 : Inv 0 sV := by
  have hj := gd_jk rI_gd
  refine ⟨by decide, ⟨?_, ?_, ?_⟩, ⟨?_, ?_, ?_, ?_, ?_⟩, ⟨fun c hc => ⟨?_, ?_⟩, 0, 0, by decide, by decide, rfl, rfl, rfl, fun j hj => absurd hj (Nat.not_lt_zero j)⟩, fun i hi => ⟨?_, ?_, rfl, Nat.zero_le 1, fun h => absurd (show 0 = 1 from h) (by decide)⟩, ⟨0, by decide, rfl, rfl, fun i hi => absurd hi (Nat.not_lt_zero i)⟩, rfl, ⟨0, by decide, rfl, rfl, fun i hi => absurd hi (Nat.not_lt_zero i)⟩⟩
  · exact bg_gd rI_gd
  · exact bg_kok rI_gd kok_0
  · exact grel_bg rI_gd mA_rel (fun x hx => by rw [sY_A x hx]; exact mA_lt x hx)
  · exact hj
  · exact kok_0
  · exact hj
  · exact kok_0
  · exact hj
  · rw [sV_1, sU_c hc]
    exact hj
  · rw [sV_2, sU_kn (by omega)]
    exact kok_0
  · rw [sV_1, sU_n (by omega)]
    rcases (show i = 0 ∨ i = 1 by omega) with q | q <;> subst q <;> exact hj
  · rw [sV_2, sU_kn (by omega)]
    exact kok_0
theorem law_begins : ev xs L 238 0 [.ref 0, .null, .null, .null, .null, .null, .null] [] ((fun _ => xi_dead, 0, 0, 0)) = ev xs L 238 23 [.ref 0, .ref 100, .ref 235, .ref 247, .int (nI 0), .null, .null] [] (hS sV (148, 148, 11029)) := by
  have a0 : ev xs L 238 0 [.ref 0, .null, .null, .null, .null, .null, .null] [] (ov (Dd 0) (hS Z0 (0, 0, 0))) = ev xs L 238 3 [.ref 0, .null, .null, .null, .null, .null, .null] [.ref 100] (ov (upO (Dd 0) 100 (some (tr .null .null .null .null .null .null .null 0))) (hS Z0 (1, 1, 9))) := r238_0 (xs := xs) (L := L) _ _ _ _ _ _ _ _ _ _ (al_o (S := Z0) (O := Dd 0) (n := 0) (z := 0) (rest := []) (own := 8) (idx := 8) (ci := 6) (by decide +kernel))
  have o0 : upO (Dd 0) 100 (some (tr .null .null .null .null .null .null .null 0)) = upO (Dd 1) 100 (some (tr .null .null .null .null .null .null .null 0)) := by
    funext id
    simp only [upO, Dd]
    repeat' split
    all_goals first | rfl | omega
  rw [o0] at a0
  have a8 : ∀ x1, ev xs L 238 8 [.ref 0, x1, .null, .null, .null, .null, .null] [] (ov (Dd 135) (hS sU (135, 135, 1984))) = ev xs L 238 11 [.ref 0, x1, .null, .null, .null, .null, .null] [.ref 235] (ov (upO (Dd 135) 235 (some (mo 0))) (hS sU (136, 136, 2009))) := fun x1 => r238_8 (xs := xs) (L := L) _ _ _ _ _ _ _ _ _ _ (al_o (S := sU) (O := Dd 135) (n := 135) (z := 1984) (rest := []) (own := 8) (idx := 102) (ci := 7) (by decide +kernel))
  have o8 : upO (Dd 135) 235 (some (mo 0)) = upO (Dd 136) 235 (some (mo 0)) := by
    funext id
    simp only [upO, Dd]
    repeat' split
    all_goals first | rfl | omega
  rw [o8] at a8
  have o17 : ov (upO (Dd 147) 247 (some (.inl (3, 1, .inr (.inl fun _ => 0))))) (hS sV (148, 148, 11029)) = hS sV (148, 148, 11029) := by
    refine Eq.trans ?_ (dd_e sV (148, 148, 11029))
    refine ov_pc rfl rfl (fun id hi => ?_)
    simp only [Dd]
    repeat' split
    all_goals first | rfl | omega
  have h17 := al_l (S := sV) (O := Dd 147) (n := 147) (z := 11028) (k := 1) (rest := []) (by decide)
  have i17 : (100 + 147 : Nat) = 247 := rfl
  have q17 : ((147 + 1, 147 + 1, 11028 + 1) : Nat × Nat × Nat) = (148, 148, 11029) := rfl
  rw [i17, q17, o17] at h17
  have a17 := fun x0 x1 x2 x3 x4 x5 x6 => r238_17 (xs := xs) (L := L) x0 x1 x2 x3 x4 x5 x6 (nI 1) _ _ _ h17
  have v1 : ∀ κ O hp, kVh (ov (upO O 100 (some (tr .null .null .null .null .null .null .null 0))) hp) 100 6 κ = κ := fun κ O hp => (ov_Vs upO_e κ).trans rfl
  have v2 : ∀ κ O hp, kVh (ov (upO O 235 (some (mo 0))) hp) 235 7 κ = κ := fun κ O hp => (ov_Vs upO_e κ).trans rfl
  have e1 := v83 (xs := xs) (L := L)
  have e2 := v121a (xs := xs) (L := L)
  rw [v121b] at e2
  rw [dd_0]
  simp (config := { decide := false, maxSteps := 1000000 }) (disch := first | assumption | exact nlg_i _ | exact nlg_r _ | exact nlg_n | omega | decide) only [r238_3, r238_4, r238_7, r238_11, r238_12, r238_15, r238_16, r238_19, r238_20, r238_21, nx_kD, nx_kDr, st_l247, st_ls247, hpT_S, st_g0_0, st_g0_1, st_g0_2, st_g0_3, st_g0_4, st_p0_4, st_g0_5, st_p0_5, st_g0_6, st_p0_6, st_g0_7, st_p0_7, st_v0, st_g1_0, st_g1_1, st_g1_2, st_g1_3, st_p1_3, st_v1, st_g7_0, st_g7_1, st_p7_1, st_g7_2, st_p7_2, st_v7, st_i2, st_is2, st_i3, st_is3, st_i4, st_is4, st_i5, st_is5, st_i6, st_is6, st_l8, st_ls8, st_y2, st_y3, st_y4, st_y8, st_o100_0, st_o100_1, st_o100_2, st_o100_3, st_o100_4, st_o100_5, st_o100_6, st_o100_7, st_q100_7, st_o100_8, st_q100_8, st_w100, st_o110_0, st_o110_1, st_w110, st_o129_0, st_o129_1, st_q129_1, st_o129_2, st_q129_2, st_w129, st_o205_0, st_o205_1, st_q205_1, st_o205_2, st_o205_3, st_q205_3, st_o205_4, st_q205_4, st_o205_5, st_q205_5, st_o205_6, st_q205_6, st_o205_7, st_q205_7, st_o205_8, st_q205_8, st_o205_9, st_q205_9, st_w205, st_o235_0, st_o235_1, st_o235_2, st_o235_3, st_o235_4, st_o235_5, st_o235_6, st_o235_7, st_q235_7, st_o235_8, st_q235_8, st_o235_9, st_o235_10, st_q235_10, st_o235_11, st_q235_11, st_o235_12, st_q235_12, st_o235_13, st_q235_13, st_o235_14, st_q235_14, st_o235_15, st_q235_15, st_o235_16, st_q235_16, st_o235_17, st_q235_17, st_o235_18, st_q235_18, st_o235_19, st_o235_20, st_o235_21, st_q235_21, st_o235_22, st_q235_22, st_o235_23, st_o235_24, st_q235_24, st_w235, st_a204, st_as204, st_a206, st_as206, st_a216, st_as216, st_a236, st_as236, st_a237, st_as237, st_a238, st_as238, st_a239, st_as239, st_a240, st_as240, st_a241, st_as241, st_a242, st_as242, st_a243, st_as243, st_a244, st_as244, st_a245, st_as245, st_a246, st_as246, st_r130, st_r203, nx_in, nx_clamp, nx_i2n, nx_l2n, nx_add, nx_sub, nx_pred, nx_mul, nx_lt, nx_le, nx_eq, nx_shl, nx_shr, nx_and1, nx_andm, nx_m1, nx_or, nx_dr, nx_rem, nx_kC, nx_ift, nx_iff, a0, a8, a17, v1, v2, e1, e2, ↓nif_lt_t, ↓nif_lt_f, ↓nif_le_t, ↓nif_le_f, ↓nif_eq_t, ↓nif_eq_f, ↓nif_ne_t, ↓nif_ne_f, Nat.one_mul, List.cons_append, List.nil_append, List.append_nil, Option.toList, if_true, if_false, Bool.false_eq_true, and_true, true_and, and_self]
theorem law_is : law_pure := by
  intro xs L hL
  obtain ⟨S', t', h1, h2, h3⟩ := law_loop (xs := xs) (L := L) (fun m S t hI hm a b c d e => op0 hI hm a b c d e) op1 hL (L / 6) 0 sV (148, 148, 11029) .null .null rfl inv_0 rfl
  refine ⟨hS S' t', ?_, ?_, ?_⟩
  · rw [law_begins]
    exact h1
  · show t'.2.1 ≤ 601024
    have : t'.2.1 ≤ 148 + L / 6 := h2
    omega
  · show t'.2.2 ≤ 7293034
    have : t'.2.2 ≤ 11029 + 6 * (L / 6) := h3
    omega
end XW
