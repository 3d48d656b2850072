section XG3
variable {xs : Nat → Int32} {L : Nat} {S : xS} {O : Nat → Option xi_O} {hp : xi_H} {a : Nat} {o : xi_O}
/-- an overlay without a game's cells -/
def hole (O : Nat → Option xi_O) (g : Nat) : Nat → Option xi_O := fun id => if g ≤ id ∧ id < g + 9 then none else O id
theorem ov_peelx (h : O a = some o) (hm : hp.1 a = o) : ov O hp = ov (upO O a none) hp := by
  refine Prod.ext ?_ rfl
  funext id
  show (O id).getD (hp.1 id) = (if id = a then none else O id).getD (hp.1 id)
  by_cases hi : id = a
  · rw [if_pos hi, hi, h, hm]
    rfl
  · rw [if_neg hi]
theorem v3 {g n z : Nat} (hG : isG g = true) (hn : 100 + n = g + 1) (hk : S.2.1 g = fun _ => 0) : ev xs L 3 0 [.ref g] [] (ov (upO O g (some (gm .null .null .null .null))) (hS (pg S g z0) (n, n, z))) = some (.inl none, ov (hole O g) (hS (pg S g (rB (ly 12 (up2 z0 1 3 5)))) (n + 8, n + 8, z + 109))) := by
  have ea := v3a (xs := xs) (L := L) (S := S) (O := O) (z := z) hG hn
  have eb := v3b (xs := xs) (L := L) (S := S) (O := lo4 O g) (n := n + 1 + 3) (z := z + 4 + 36) hG (by omega) hk
  have pe : (pg S g (ly 12 (up2 z0 1 3 5))).1 g = ly 12 (up2 z0 1 3 5) := pg_e _
  have m0 : mkH (pg S g (ly 12 (up2 z0 1 3 5))) g = gm (.ref (g + 1)) (.ref (g + 5)) (.ref (g + 6)) (.ref (g + 7)) := by
    have h0 := mkH_g (S := pg S g (ly 12 (up2 z0 1 3 5))) hG 0 (by decide)
    rw [Nat.add_zero] at h0
    rw [h0]
    show (.inr (1, [.ref (g + 1), .ref (g + 5), .ref (g + 6), .ref (g + 7), .int (nI ((pg S g (ly 12 (up2 z0 1 3 5))).1 g 0 4)), .int (nI ((pg S g (ly 12 (up2 z0 1 3 5))).1 g 0 5)), .int (nI ((pg S g (ly 12 (up2 z0 1 3 5))).1 g 0 6)), .int (nI ((pg S g (ly 12 (up2 z0 1 3 5))).1 g 0 7))]) : xi_O) = _
    rw [pe]
    rfl
  have m5 : mkH (pg S g (ly 12 (up2 z0 1 3 5))) (g + 5) = .inl (0, 3, .inl fun _ => 0) := by
    rw [mkH_g hG 5 (by decide)]
    show (.inl (0, 3, .inl (fun i => nI ((pg S g (ly 12 (up2 z0 1 3 5))).1 g 5 i))) : xi_O) = _
    rw [pe]
    rfl
  have m6 : mkH (pg S g (ly 12 (up2 z0 1 3 5))) (g + 6) = .inl (0, 3, .inl fun _ => 0) := by
    rw [mkH_g hG 6 (by decide)]
    show (.inl (0, 3, .inl (fun i => nI ((pg S g (ly 12 (up2 z0 1 3 5))).1 g 6 i))) : xi_O) = _
    rw [pe]
    rfl
  have hz : ∀ t, ov (upO (upO (upO (upO (upO (lo4 O g) g (some (gm (.ref (g + 1)) (.ref (g + 5)) (.ref (g + 6)) (.ref (g + 7))))) (g + 5) (some (.inl (0, 3, .inl fun _ => 0)))) (g + 6) (some (.inl (0, 3, .inl fun _ => 0)))) (g + 7) none) (g + 8) none) (hS (pg S g (ly 12 (up2 z0 1 3 5))) t) = ov (hole O g) (hS (pg S g (ly 12 (up2 z0 1 3 5))) t) := by
    intro t
    rw [ov_peelx (a := g + 5) (by rw [upO_n (by omega), upO_n (by omega), upO_n (by omega), upO_e]) m5]
    rw [ov_peelx (a := g + 6) (by rw [upO_n (by omega), upO_n (by omega), upO_n (by omega), upO_e]) m6]
    rw [ov_peelx (a := g) (by rw [upO_n (by omega), upO_n (by omega), upO_n (by omega), upO_n (by omega), upO_n (by omega), upO_n (by omega), upO_e]) m0]
    refine congrArg (fun z => ov z _) ?_
    funext id
    unfold hole lo4 upO
    by_cases hr : g ≤ id ∧ id < g + 9
    · rw [if_pos hr]
      repeat' split
      all_goals first | rfl | omega
    · rw [if_neg hr]
      repeat' split
      all_goals first | rfl | omega
  have hn0 : ∀ j, j < 9 → hole O g (g + j) = none := fun j hj => if_pos ⟨by omega, by omega⟩
  have e4 := v4 (xs := xs) (L := L) (S := S) (t := (n + 8, n + 8, z + 109)) (r := ly 12 (up2 z0 1 3 5)) (O := hole O g) hG (hn0 0 (by decide)) (hn0 1 (by decide)) (hn0 2 (by decide)) (hn0 3 (by decide)) (hn0 4 (by decide)) (hn0 5 (by decide)) (hn0 6 (by decide))
  have hv : ∀ κ, kVh (ov (hole O g) (hS (pg S g (ly 12 (up2 z0 1 3 5))) (n + 8, n + 8, z + 109))) g 1 κ = κ := fun κ => (ov_V (hn0 0 (by decide)) κ).trans (st_v0 hG κ)
  rw [ea, eb, hz]
  rw [show ((n + 1 + 3 + 1 + 1 + 1 + 1, n + 1 + 3 + 1 + 1 + 1 + 1, z + 4 + 36 + 3 + 3 + 3 + 60) : Nat × Nat × Nat) = (n + 8, n + 8, z + 109) by refine Prod.ext ?_ (Prod.ext ?_ ?_) <;> show _ = _ <;> simp only [] <;> omega]
  simp (config := { decide := false, maxSteps := 1000000 }) (disch := first | assumption | exact nlg_i _ | exact nlg_r _ | exact nlg_n | omega | decide) only [r3_40, r3_41, r3_44, st_g0_0, st_g0_1, st_g0_2, st_g0_3, st_g0_4, st_p0_4, st_g0_5, st_p0_5, st_g0_6, st_p0_6, st_g0_7, st_p0_7, st_v0, st_g1_0, st_g1_1, st_g1_2, st_g1_3, st_p1_3, st_v1, st_g7_0, st_g7_1, st_p7_1, st_g7_2, st_p7_2, st_v7, st_i2, st_is2, st_i3, st_is3, st_i4, st_is4, st_i5, st_is5, st_i6, st_is6, st_l8, st_ls8, st_y2, st_y3, st_y4, st_y8, st_o100_0, st_o100_1, st_o100_2, st_o100_3, st_o100_4, st_o100_5, st_o100_6, st_o100_7, st_q100_7, st_o100_8, st_q100_8, st_w100, st_o110_0, st_o110_1, st_w110, st_o129_0, st_o129_1, st_q129_1, st_o129_2, st_q129_2, st_w129, st_o205_0, st_o205_1, st_q205_1, st_o205_2, st_o205_3, st_q205_3, st_o205_4, st_q205_4, st_o205_5, st_q205_5, st_o205_6, st_q205_6, st_o205_7, st_q205_7, st_o205_8, st_q205_8, st_o205_9, st_q205_9, st_w205, st_o235_0, st_o235_1, st_o235_2, st_o235_3, st_o235_4, st_o235_5, st_o235_6, st_o235_7, st_q235_7, st_o235_8, st_q235_8, st_o235_9, st_o235_10, st_q235_10, st_o235_11, st_q235_11, st_o235_12, st_q235_12, st_o235_13, st_q235_13, st_o235_14, st_q235_14, st_o235_15, st_q235_15, st_o235_16, st_q235_16, st_o235_17, st_q235_17, st_o235_18, st_q235_18, st_o235_19, st_o235_20, st_o235_21, st_q235_21, st_o235_22, st_q235_22, st_o235_23, st_o235_24, st_q235_24, st_w235, st_a204, st_as204, st_a206, st_as206, st_a216, st_as216, st_a236, st_as236, st_a237, st_as237, st_a238, st_as238, st_a239, st_as239, st_a240, st_as240, st_a241, st_as241, st_a242, st_as242, st_a243, st_as243, st_a244, st_as244, st_a245, st_as245, st_a246, st_as246, st_r130, st_r203, nx_in, nx_clamp, nx_i2n, nx_l2n, nx_add, nx_sub, nx_pred, nx_mul, nx_lt, nx_le, nx_eq, nx_shl, nx_shr, nx_and1, nx_andm, nx_m1, nx_or, nx_dr, nx_rem, nx_kC, nx_ift, nx_iff, hv, e4, ↓nif_lt_t, ↓nif_lt_f, ↓nif_le_t, ↓nif_le_f, ↓nif_eq_t, ↓nif_eq_f, ↓nif_ne_t, ↓nif_ne_f, Nat.one_mul, List.cons_append, List.nil_append, List.append_nil, Option.toList, if_true, if_false, Bool.false_eq_true, and_true, true_and, and_self]
end XG3
